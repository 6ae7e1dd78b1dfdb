def R_law : String := "ShakerhallLaw"
def lw_At (p : Program) (s : State) (m : MethodId) (meth : Method) (c : Code) (b L : Nat) (xs : Nat → Int32) : Prop :=
  p.tables.exec = Jvm.exec ∧ c.code = code ∧ meth.sig.returnType = ret ∧ c.maxLocals = 9 ∧ s.vm.findClass R_law = some m.cls ∧ (∀ w ∈ lw_tbl, w.before #[Value.ref b] s = true) ∧ va_X b L xs s s.heap ∧ b < s.heap.size ∧ meth.locks = false ∧ (Jvm.Cond.and given_1 narrow_1).before #[Value.ref b] s = true
set_option maxHeartbeats 4000000 in
set_option maxRecDepth 100000 in
theorem pz_start {b : Nat} {s : State} (hts0 : ∀ w ∈ lw_tbl, w.before #[Value.ref b] s = true) (hgv : (Jvm.Cond.and given_1 narrow_1).before #[Value.ref b] s = true) : ∃ ed : Nat, pz ed (fun q : Nat => s.heap.size ≤ q) s s.heap := by
  have hg := flat_of_before _ hgv
  have hA : ∀ a : Nat, a < s.heap.size → ¬ (fun q : Nat => s.heap.size ≤ q) a := fun a h9 => Nat.not_le.mpr h9
  obtain ⟨ed, he1, hT⟩ := va_Tof (f := fun _ => .null) (N := 0) (A := (fun q : Nat => s.heap.size ≤ q)) (by decide) (hg (.arrayOf (.static "java/util/ArrayList" "DEFAULTCAPACITY_EMPTY_ELEMENTDATA" "[Ljava/lang/Object;") (.object "java/lang/Object")) (by decide +kernel)) (va_eqt (hg (.eq (.length (.static "java/util/ArrayList" "DEFAULTCAPACITY_EMPTY_ELEMENTDATA" "[Ljava/lang/Object;")) (.int 0)) (by decide +kernel))) (fun j hj => absurd hj (Nat.not_lt_zero j)) hA
  obtain ⟨ad, hC, hEl⟩ := vb_Cof (A := (fun q : Nat => s.heap.size ≤ q)) (st := (.static "java/lang/Integer$IntegerCache" "cache" "[Ljava/lang/Integer;")) rfl (va_eqt (hg (.eq (.length (.static "java/lang/Integer$IntegerCache" "cache" "[Ljava/lang/Integer;")) (.int 256)) (by decide +kernel))) (hg (.all (.static "java/lang/Integer$IntegerCache" "cache" "[Ljava/lang/Integer;") (.and (.exactly (.elem (.static "java/lang/Integer$IntegerCache" "cache" "[Ljava/lang/Integer;") (.index 0)) "java/lang/Integer") (.eq (.field (.elem (.static "java/lang/Integer$IntegerCache" "cache" "[Ljava/lang/Integer;") (.index 0)) "java/lang/Integer" "value" "I") (.sub (.index 0) (.int 128))))) (by decide +kernel)) hA
  obtain ⟨tc, ht, hTc⟩ := va_Tof (f := fun j => .ref (ad j)) (N := 256) (A := (fun q : Nat => s.heap.size ≤ q)) (by decide) (hg (.arrayOf (.static "java/lang/Integer$IntegerCache" "cache" "[Ljava/lang/Integer;") (.object "java/lang/Integer")) (by decide +kernel)) (va_eqt (hg (.eq (.length (.static "java/lang/Integer$IntegerCache" "cache" "[Ljava/lang/Integer;")) (.int 256)) (by decide +kernel))) (fun j hj => hEl j hj) hA
  have h1 : ∀ q ∈ pz_C, Cond.castable q.1 q.2 ∈ lw_tbl := by decide +kernel
  have h2 : ∀ q ∈ pz_D, Cond.declares q ∈ lw_tbl := by decide +kernel
  have h3 : ∀ q ∈ pz_T, Cond.stringRef q.1 q.2.1 q.2.2 ∈ lw_tbl := by decide +kernel
  have h4 : ∀ q ∈ pz_T, Cond.exactly (.string q.1 q.2.1) "java/lang/String" ∈ flatC (Jvm.Cond.and given_1 narrow_1) := by decide +kernel
  have h5 : ∀ q ∈ pz_N, Cond.not (.castable q.1 q.2) ∈ flatC (Jvm.Cond.and given_1 narrow_1) := by decide +kernel
  refine ⟨ed, vx_Zqof (hts0 (Cond.laysStatic "java/lang/Throwable" "UNASSIGNED_STACK" "[Ljava/lang/StackTraceElement;") (List.mem_of_getElem? (i := 350) (by decide +kernel))) (hts0 (Cond.initialized "java/lang/Throwable") (List.mem_of_getElem? (i := 50) (by decide +kernel))) (hg (.isRef (.static "java/lang/Throwable" "UNASSIGNED_STACK" "[Ljava/lang/StackTraceElement;")) (by decide +kernel)) hA, vx_Zqof (hts0 (Cond.laysStatic "java/lang/Throwable" "SUPPRESSED_SENTINEL" "Ljava/util/List;") (List.mem_of_getElem? (i := 352) (by decide +kernel))) (hts0 (Cond.initialized "java/lang/Throwable") (List.mem_of_getElem? (i := 50) (by decide +kernel))) (hg (.isRef (.static "java/lang/Throwable" "SUPPRESSED_SENTINEL" "Ljava/util/List;")) (by decide +kernel)) hA, fun q hq => va_Nw.of rfl (hts0 _ (h1 q hq)), fun q hq => va_Nw.of rfl (hts0 _ (h2 q hq)), fun q hq => ?_, fun q hq => va_Nc.of (hg _ (h5 q hq)), va_AO.of (hts0 (Cond.arrayOver (FieldType.object "java/lang/Object")) (List.mem_of_getElem? (i := 489) (by decide +kernel))), ?_, ?_, va_Nw.of rfl (hts0 (Cond.methodLinkNest RX10 64 yX9_init RX10) (List.mem_of_getElem? (i := 1259) (by decide +kernel))), va_Nw.of rfl (hts0 (Cond.fieldLinkNest RJx35411 28 RJx4a65c "size" "I" RJx4a65c) (List.mem_of_getElem? (i := 104) (by decide +kernel))), ?_, va_Zref (hts0 (Cond.laysStatic RJx4a65c "DEFAULTCAPACITY_EMPTY_ELEMENTDATA" "[Ljava/lang/Object;") (List.mem_of_getElem? (i := 101) (by decide +kernel))) (hts0 (Cond.initialized RJx4a65c) (List.mem_of_getElem? (i := 46) (by decide +kernel))) he1 hA, ?_⟩
  · obtain ⟨a, _, _, _, q1, -⟩ := Cond.exactly_spec (args := #[Value.ref b]) (first := s) (o := none) (s := s) (idx := []) (hg _ (h4 q hq))
    exact ⟨a, vk_R.of (hts0 _ (h3 q hq)) q1⟩
  · exact (hts0 (Cond.arrayOver (FieldType.array FieldType.int)) (List.mem_of_getElem? (i := 1428) (by decide +kernel)))
  · exact ⟨ad, tc, hC, hTc, va_Zref (hts0 (Cond.laysStatic RJxabbfe "cache" "[Ljava/lang/Integer;") (List.mem_of_getElem? (i := 1976) (by decide +kernel))) (hts0 (Cond.initialized RJxabbfe) (List.mem_of_getElem? (i := 79) (by decide +kernel))) ht hA, va_Zof (hts0 (Cond.laysStatic RJxabbfe "high" "I") (List.mem_of_getElem? (i := 1974) (by decide +kernel))) (hts0 (Cond.initialized RJxabbfe) (List.mem_of_getElem? (i := 79) (by decide +kernel))) (va_eqi (hg (.eq (.static "java/lang/Integer$IntegerCache" "high" "I") (.int 127)) (by decide +kernel))) hA⟩
  · exact va_Fw.of (hts0 (Cond.declares (⟨RJx4d0d8, "hasNext", "()Z"⟩ : MethodName)) (List.mem_of_getElem? (i := 1548) (by decide +kernel))) (hts0 (Cond.interfaceMethod RJx4d0d8 RJx4d0d8 "hasNext" "()Z") (List.mem_of_getElem? (i := 1547) (by decide +kernel))) (hts0 (Cond.publicMethod yJx35411_hasNext_aae02) (List.mem_of_getElem? (i := 1553) (by decide +kernel))) (hts0 (Cond.unhidden RJx35411 "hasNext" "()Z") (List.mem_of_getElem? (i := 1551) (by decide +kernel))) (hts0 (Cond.castable RJx35411 RJx4d0d8) (List.mem_of_getElem? (i := 1549) (by decide +kernel)))
  · obtain ⟨cell, g1, g2, g3, -, g5, -, g7⟩ := hT
    exact ⟨cell, g1, g2, g3, g5, g7⟩
section
def pr (U : State) : Prop := va_Nw (.castable "[I" "java/lang/Object") U ∧ va_Nw (.fieldLinkNest "ShakerhallModel" 53 "ShakerhallModel$Structure" "masses" "Ljava/util/ArrayList;" "ShakerhallModel") U ∧ va_Nw (.fieldLinkNest "ShakerhallModel$Motion" 15 "ShakerhallModel$Structure" "masses" "Ljava/util/ArrayList;" "ShakerhallModel") U
theorem pr.warm {s U : State} (h : pr s) (hW : s.WarmedH U.vm) : pr U := ⟨h.1.warmC hW, va_Nw.warmF hW h.2.1, va_Nw.warmF hW h.2.2⟩
theorem pr.same {u U : State} (h : pr u) (hv : U.vm = u.vm) : pr U := h.warm (by rw [hv]; exact State.WarmedH.refl u)
theorem pr.cast_I {U : State} (h : pr U) : va_Nw (.castable "[I" "java/lang/Object") U := h.1
theorem pr.nest_ShakerhallModel53 {U : State} (h : pr U) : va_Nw (.fieldLinkNest "ShakerhallModel" 53 "ShakerhallModel$Structure" "masses" "Ljava/util/ArrayList;" "ShakerhallModel") U := h.2.1
theorem pr.nest_ShakerhallModelMotion15 {U : State} (h : pr U) : va_Nw (.fieldLinkNest "ShakerhallModel$Motion" 15 "ShakerhallModel$Structure" "masses" "Ljava/util/ArrayList;" "ShakerhallModel") U := h.2.2
section PRM
variable {p : Program} {l : Launch} {e : Env} {R : Room} {s : State} {m : MethodId} {args : Array Value} {below : List Frame} {meth : Method} {c : Code} {H : Heap} {locs : List Loc} {cells slots : Nat} {Q : State → Prop}
variable {cc : ByteArray} {pc : Nat} {ls : Array Slot} {rest : List Value} {D : va_G} {cl : List vw_C} {A : Nat → Prop} {tys : List (ClassId × FieldType)} {ws : va_W} {H0 : Heap}
theorem pl_name {g : JFrame} (k : ∀ QQ : State → Prop, QQ = Q → W p l e R s m args below meth c H locs cells slots QQ g) : W p l e R s m args below meth c H locs cells slots Q g := k Q rfl
theorem va_newaS (hexec : p.tables.exec = Jvm.exec) (hb : c.code = cc) {atype : ArrayType} (harr : (Cond.arrayClass (newarray.typeOf atype)).before args s = true) {ty : FieldType} (hty : newarray.typeOf atype = ty) (hK : va_K D cl tys s) (hP : va_P D cl ws H) (hD : va_D A ws) (hS : va_S A H0 H locs) (hA : ∀ q, H0.size ≤ q → A q)
    {n : Int32} {N' : Nat} {a0 : vp_A} (ha : ∀ cA : ClassId, vp_cell cA a0 = arrV cA N' (fun _ => defaultValue ty)) (hn : ¬ n < 0) (hN : n.toNatClampNeg = N') (hbytes : N' * componentBytes ty ≤ 536870912) (hcells : cells + 1 ≤ R.cells) (hslots : slots + N' ≤ R.slots) (hdg : decode cc pc = .ok (.newarray atype, 2))
    (kk : ∀ (q : Nat) (cA : ClassId) (H1 : Heap), H0.size ≤ q → va_K D cl (tys ++ [(cA, ty)]) s → va_P D cl (ws ++ [(q, .inl (cA, a0))]) H1 → va_D A (ws ++ [(q, .inl (cA, a0))]) → va_S A H0 H1 locs →
      W p l e R s m args below meth c H1 locs (cells + 1) (slots + N') Q (F0 m (pc + 2) ls (.ref q :: rest))) : W p l e R s m args below meth c H locs cells slots Q (F0 m pc ls (.int n :: rest)) := by
  subst hty
  refine va_newaK hexec hb harr rfl hdg rfl hn hN hbytes hcells hslots rfl fun H1 cA e1 z1 o1 hAr hNm => ?_
  have hk : ∀ (k : Nat) (x : Nat × va_E), ws[k]? = some x → H1[x.1]? = H[x.1]? := fun k x hx => o1 x.1 ((hP k x hx).lt)
  refine kk H.size cA H1 hS.1 ⟨hK.1, fun k x hx => ?_⟩ ((hP.kept hk).app (fun k x hx => ?_)) (hD.push hP rfl (hA _ hS.1)) ⟨Nat.le_trans hS.1 (by omega), fun x h1 h2 => (o1 x (Nat.lt_of_lt_of_le h1 hS.1)).trans (hS.2.1 x h1 h2), hS.2.2⟩
  · by_cases hl : k < tys.length
    · rw [List.getElem?_append_left hl] at hx
      exact hK.2 k x hx
    · rw [List.getElem?_append_right (by omega)] at hx
      have hz : k - tys.length < 1 := (List.getElem?_eq_some_iff.mp hx).1
      rw [show k - tys.length = 0 by omega] at hx
      cases hx
      exact ⟨hAr, by cases atype <;> exact hNm⟩
  · have hz : k < 1 := (List.getElem?_eq_some_iff.mp hx).1
    rw [show k = 0 by omega] at hx
    cases hx
    show H1[H.size]? = some (vp_cell _ _)
    rw [ha]
    exact e1
end PRM
theorem pe_arr1 {D : va_G} {cl : List vw_C} {tys : List (ClassId × FieldType)} {ws : va_W} {s : State} {H : Heap} {el i t : Nat} {cA : ClassId} {x : vp_A} (hK : va_K D cl tys s) (hP : va_P D cl ws H) (he : ws[i]? = some (el, .inl (cA, x))) (ht : tys[t]? = some (cA, .int)) (hca : va_Nw (.castable "[I" "java/lang/Object") s) : va_Any "java/lang/Object" s H el := by
  have h1 : H[el]? = some (vp_cell cA x) := hP i _ he
  have h2 : s.vm.findClass "[I" = some cA := (hK.2 t _ ht).2
  obtain ⟨kC, hkC, -⟩ := Vm.findClass_spec h2
  have hcl : (vp_cell cA x).cls = cA := by obtain ⟨n, y⟩ := x; rcases y with y | y | y | y | y <;> rfl
  have hst : (vp_cell cA x).vm.isStatics = false := by obtain ⟨n, y⟩ := x; rcases y with y | y | y | y | y <;> rfl
  refine ⟨_, h1, hst, ⟨kC, by rw [hcl]; exact hkC⟩, fun comp hc => ?_⟩
  obtain ⟨c3, c4, hc3, hc4, hasg⟩ := Cond.castable_spec (va_Nw.use (A := #[]) rfl hca)
  cases hc.symm.trans hc4
  cases h2.symm.trans hc3
  rw [hcl]
  exact hasg
theorem dJ15_checkIndex_7cf53_0 : decode cJ15_checkIndex_7cf53 0 = .ok (.iload_n 0, 1) := by decide +kernel
theorem dJ15_checkIndex_7cf53_1 : decode cJ15_checkIndex_7cf53 1 = .ok (.iload_n 1, 1) := by decide +kernel
theorem dJ15_checkIndex_7cf53_2 : decode cJ15_checkIndex_7cf53 2 = .ok (.aconst_null, 1) := by decide +kernel
theorem dJ15_checkIndex_7cf53_3 : decode cJ15_checkIndex_7cf53 3 = .ok (.invokestatic 105, 3) := by decide +kernel
theorem dJ15_checkIndex_7cf53_6 : decode cJ15_checkIndex_7cf53 6 = .ok (.ireturn, 1) := by decide +kernel
theorem dJ3_checkIndex_8e157_0 : decode cJ3_checkIndex_8e157 0 = .ok (.iload_n 0, 1) := by decide +kernel
theorem dJ3_checkIndex_8e157_1 : decode cJ3_checkIndex_8e157 1 = .ok (.ifCond .lt 8, 3) := by decide +kernel
theorem dJ3_checkIndex_8e157_4 : decode cJ3_checkIndex_8e157 4 = .ok (.iload_n 0, 1) := by decide +kernel
theorem dJ3_checkIndex_8e157_5 : decode cJ3_checkIndex_8e157 5 = .ok (.iload_n 1, 1) := by decide +kernel
theorem dJ3_checkIndex_8e157_6 : decode cJ3_checkIndex_8e157 6 = .ok (.if_icmp .lt 10, 3) := by decide +kernel
theorem dJ3_checkIndex_8e157_16 : decode cJ3_checkIndex_8e157 16 = .ok (.iload_n 0, 1) := by decide +kernel
theorem dJ3_checkIndex_8e157_17 : decode cJ3_checkIndex_8e157 17 = .ok (.ireturn, 1) := by decide +kernel
theorem dJx4a65c_elementData_915e3_0 : decode cJx4a65c_elementData_915e3 0 = .ok (.aload_n 0, 1) := by decide +kernel
theorem dJx4a65c_elementData_915e3_1 : decode cJx4a65c_elementData_915e3 1 = .ok (.getfield 9, 3) := by decide +kernel
theorem dJx4a65c_elementData_915e3_4 : decode cJx4a65c_elementData_915e3 4 = .ok (.iload_n 1, 1) := by decide +kernel
theorem dJx4a65c_elementData_915e3_5 : decode cJx4a65c_elementData_915e3 5 = .ok (.aaload, 1) := by decide +kernel
theorem dJx4a65c_elementData_915e3_6 : decode cJx4a65c_elementData_915e3 6 = .ok (.areturn, 1) := by decide +kernel
theorem dJx4a65c_get_915e3_0 : decode cJx4a65c_get_915e3 0 = .ok (.iload_n 1, 1) := by decide +kernel
theorem dJx4a65c_get_915e3_1 : decode cJx4a65c_get_915e3 1 = .ok (.aload_n 0, 1) := by decide +kernel
theorem dJx4a65c_get_915e3_2 : decode cJx4a65c_get_915e3 2 = .ok (.getfield 48, 3) := by decide +kernel
theorem dJx4a65c_get_915e3_5 : decode cJx4a65c_get_915e3 5 = .ok (.invokestatic 118, 3) := by decide +kernel
theorem dJx4a65c_get_915e3_8 : decode cJx4a65c_get_915e3 8 = .ok (.pop, 1) := by decide +kernel
theorem dJx4a65c_get_915e3_9 : decode cJx4a65c_get_915e3 9 = .ok (.aload_n 0, 1) := by decide +kernel
theorem dJx4a65c_get_915e3_10 : decode cJx4a65c_get_915e3 10 = .ok (.iload_n 1, 1) := by decide +kernel
theorem dJx4a65c_get_915e3_11 : decode cJx4a65c_get_915e3 11 = .ok (.invokevirtual 123, 3) := by decide +kernel
theorem dJx4a65c_get_915e3_14 : decode cJx4a65c_get_915e3 14 = .ok (.areturn, 1) := by decide +kernel
theorem dJx4a65c_isEmpty_aae02_11 : decode cJx4a65c_isEmpty_aae02 11 = .ok (.iconst 0, 1) := by decide +kernel
theorem dL_addMass_12 : decode cL_addMass 12 = .ok (.i2l, 1) := by decide +kernel
theorem dL_addMass_13 : decode cL_addMass 13 = .ok (.lastore, 1) := by decide +kernel
theorem dL_addMass_14 : decode cL_addMass 14 = .ok (.goto 15, 3) := by decide +kernel
theorem dL_addMass_29 : decode cL_addMass 29 = .ok (.iconst 0, 1) := by decide +kernel
theorem dL_addMass_30 : decode cL_addMass 30 = .ok (.ireturn, 1) := by decide +kernel
theorem dL_getResonance_7 : decode cL_getResonance 7 = .ok (.i2l, 1) := by decide +kernel
theorem dL_getResonance_8 : decode cL_getResonance 8 = .ok (.lastore, 1) := by decide +kernel
theorem dL_getResonance_9 : decode cL_getResonance 9 = .ok (.goto 9, 3) := by decide +kernel
theorem dL_getResonance_18 : decode cL_getResonance 18 = .ok (.iconst 0, 1) := by decide +kernel
theorem dL_getResonance_19 : decode cL_getResonance 19 = .ok (.ireturn, 1) := by decide +kernel
theorem dX0_findResonance_0 : decode cX0_findResonance 0 = .ok (.iconst 4, 1) := by decide +kernel
theorem dX0_findResonance_1 : decode cX0_findResonance 1 = .ok (.istore_n 1, 1) := by decide +kernel
theorem dX0_findResonance_2 : decode cX0_findResonance 2 = .ok (.iconst (-1), 1) := by decide +kernel
theorem dX0_findResonance_3 : decode cX0_findResonance 3 = .ok (.istore_n 2, 1) := by decide +kernel
theorem dX0_findResonance_4 : decode cX0_findResonance 4 = .ok (.iconst 4, 1) := by decide +kernel
theorem dX0_findResonance_5 : decode cX0_findResonance 5 = .ok (.istore_n 3, 1) := by decide +kernel
theorem dX0_findResonance_6 : decode cX0_findResonance 6 = .ok (.iload_n 3, 1) := by decide +kernel
theorem dX0_findResonance_7 : decode cX0_findResonance 7 = .ok (.bipush 64, 2) := by decide +kernel
theorem dX0_findResonance_9 : decode cX0_findResonance 9 = .ok (.if_icmp .gt 29, 3) := by decide +kernel
theorem dX0_findResonance_12 : decode cX0_findResonance 12 = .ok (.aload_n 0, 1) := by decide +kernel
theorem dX0_findResonance_13 : decode cX0_findResonance 13 = .ok (.iload_n 3, 1) := by decide +kernel
theorem dX0_findResonance_14 : decode cX0_findResonance 14 = .ok (.invokevirtual 86, 3) := by decide +kernel
theorem dX0_findResonance_17 : decode cX0_findResonance 17 = .ok (.aload_n 0, 1) := by decide +kernel
theorem dX0_findResonance_18 : decode cX0_findResonance 18 = .ok (.invokevirtual 89, 3) := by decide +kernel
theorem dX0_findResonance_21 : decode cX0_findResonance 21 = .ok (.iload_n 2, 1) := by decide +kernel
theorem dX0_findResonance_22 : decode cX0_findResonance 22 = .ok (.if_icmp .le 10, 3) := by decide +kernel
theorem dX0_findResonance_25 : decode cX0_findResonance 25 = .ok (.aload_n 0, 1) := by decide +kernel
theorem dX0_findResonance_26 : decode cX0_findResonance 26 = .ok (.invokevirtual 89, 3) := by decide +kernel
theorem dX0_findResonance_29 : decode cX0_findResonance 29 = .ok (.istore_n 2, 1) := by decide +kernel
theorem dX0_findResonance_30 : decode cX0_findResonance 30 = .ok (.iload_n 3, 1) := by decide +kernel
theorem dX0_findResonance_31 : decode cX0_findResonance 31 = .ok (.istore_n 1, 1) := by decide +kernel
theorem dX0_findResonance_32 : decode cX0_findResonance 32 = .ok (.iinc 3 1, 3) := by decide +kernel
theorem dX0_findResonance_35 : decode cX0_findResonance 35 = .ok (.goto (-29), 3) := by decide +kernel
theorem dX0_findResonance_38 : decode cX0_findResonance 38 = .ok (.iload_n 1, 1) := by decide +kernel
theorem dX0_findResonance_39 : decode cX0_findResonance 39 = .ok (.ireturn, 1) := by decide +kernel
theorem dX0_goOn_0 : decode cX0_goOn 0 = .ok (.iconst 0, 1) := by decide +kernel
theorem dX0_goOn_1 : decode cX0_goOn 1 = .ok (.istore_n 3, 1) := by decide +kernel
theorem dX0_goOn_2 : decode cX0_goOn 2 = .ok (.iload_n 3, 1) := by decide +kernel
theorem dX0_goOn_3 : decode cX0_goOn 3 = .ok (.iload_n 2, 1) := by decide +kernel
theorem dX0_goOn_4 : decode cX0_goOn 4 = .ok (.if_icmp .ge 31, 3) := by decide +kernel
theorem dX0_goOn_7 : decode cX0_goOn 7 = .ok (.aload_n 0, 1) := by decide +kernel
theorem dX0_goOn_8 : decode cX0_goOn 8 = .ok (.iload_n 3, 1) := by decide +kernel
theorem dX0_goOn_9 : decode cX0_goOn 9 = .ok (.iload_n 1, 1) := by decide +kernel
theorem dX0_goOn_10 : decode cX0_goOn 10 = .ok (.irem, 1) := by decide +kernel
theorem dX0_goOn_11 : decode cX0_goOn 11 = .ok (.iload_n 1, 1) := by decide +kernel
theorem dX0_goOn_12 : decode cX0_goOn 12 = .ok (.iconst 2, 1) := by decide +kernel
theorem dX0_goOn_13 : decode cX0_goOn 13 = .ok (.idiv, 1) := by decide +kernel
theorem dX0_goOn_14 : decode cX0_goOn 14 = .ok (.if_icmp .ge 9, 3) := by decide +kernel
theorem dX0_goOn_17 : decode cX0_goOn 17 = .ok (.sipush 1600, 3) := by decide +kernel
theorem dX0_goOn_20 : decode cX0_goOn 20 = .ok (.goto 6, 3) := by decide +kernel
theorem dX0_goOn_23 : decode cX0_goOn 23 = .ok (.sipush (-1600), 3) := by decide +kernel
theorem dX0_goOn_26 : decode cX0_goOn 26 = .ok (.invokevirtual 75, 3) := by decide +kernel
theorem dX0_goOn_29 : decode cX0_goOn 29 = .ok (.iinc 3 1, 3) := by decide +kernel
theorem dX0_goOn_32 : decode cX0_goOn 32 = .ok (.goto (-30), 3) := by decide +kernel
theorem dX0_goOn_35 : decode cX0_goOn 35 = .ok (.return_, 1) := by decide +kernel
theorem dX0_hang_0 : decode cX0_hang 0 = .ok (.aload_n 0, 1) := by decide +kernel
theorem dX0_hang_1 : decode cX0_hang 1 = .ok (.getfield 9, 3) := by decide +kernel
theorem dX0_hang_4 : decode cX0_hang 4 = .ok (.aload_n 0, 1) := by decide +kernel
theorem dX0_hang_5 : decode cX0_hang 5 = .ok (.getfield 40, 3) := by decide +kernel
theorem dX0_hang_8 : decode cX0_hang 8 = .ok (.iload_n 1, 1) := by decide +kernel
theorem dX0_hang_9 : decode cX0_hang 9 = .ok (.iastore, 1) := by decide +kernel
theorem dX0_hang_10 : decode cX0_hang 10 = .ok (.aload_n 0, 1) := by decide +kernel
theorem dX0_hang_11 : decode cX0_hang 11 = .ok (.getfield 15, 3) := by decide +kernel
theorem dX0_hang_14 : decode cX0_hang 14 = .ok (.aload_n 0, 1) := by decide +kernel
theorem dX0_hang_15 : decode cX0_hang 15 = .ok (.getfield 40, 3) := by decide +kernel
theorem dX0_hang_18 : decode cX0_hang 18 = .ok (.iload_n 2, 1) := by decide +kernel
theorem dX0_hang_19 : decode cX0_hang 19 = .ok (.iastore, 1) := by decide +kernel
theorem dX0_hang_20 : decode cX0_hang 20 = .ok (.aload_n 0, 1) := by decide +kernel
theorem dX0_hang_21 : decode cX0_hang 21 = .ok (.getfield 18, 3) := by decide +kernel
theorem dX0_hang_24 : decode cX0_hang 24 = .ok (.aload_n 0, 1) := by decide +kernel
theorem dX0_hang_25 : decode cX0_hang 25 = .ok (.getfield 40, 3) := by decide +kernel
theorem dX0_hang_28 : decode cX0_hang 28 = .ok (.iload_n 2, 1) := by decide +kernel
theorem dX0_hang_29 : decode cX0_hang 29 = .ok (.iastore, 1) := by decide +kernel
theorem dX0_hang_30 : decode cX0_hang 30 = .ok (.aload_n 0, 1) := by decide +kernel
theorem dX0_hang_31 : decode cX0_hang 31 = .ok (.getfield 21, 3) := by decide +kernel
theorem dX0_hang_34 : decode cX0_hang 34 = .ok (.aload_n 0, 1) := by decide +kernel
theorem dX0_hang_35 : decode cX0_hang 35 = .ok (.getfield 40, 3) := by decide +kernel
theorem dX0_hang_38 : decode cX0_hang 38 = .ok (.iload_n 3, 1) := by decide +kernel
theorem dX0_hang_39 : decode cX0_hang 39 = .ok (.iastore, 1) := by decide +kernel
theorem dX0_hang_40 : decode cX0_hang 40 = .ok (.aload_n 0, 1) := by decide +kernel
theorem dX0_hang_41 : decode cX0_hang 41 = .ok (.dup, 1) := by decide +kernel
theorem dX0_hang_42 : decode cX0_hang 42 = .ok (.getfield 40, 3) := by decide +kernel
theorem dX0_hang_45 : decode cX0_hang 45 = .ok (.iconst 1, 1) := by decide +kernel
theorem dX0_hang_46 : decode cX0_hang 46 = .ok (.iadd, 1) := by decide +kernel
theorem dX0_hang_47 : decode cX0_hang 47 = .ok (.putfield 40, 3) := by decide +kernel
theorem dX0_hang_50 : decode cX0_hang 50 = .ok (.return_, 1) := by decide +kernel
theorem dX0_lastPeak_0 : decode cX0_lastPeak 0 = .ok (.aload_n 0, 1) := by decide +kernel
theorem dX0_lastPeak_1 : decode cX0_lastPeak 1 = .ok (.getfield 40, 3) := by decide +kernel
theorem dX0_lastPeak_4 : decode cX0_lastPeak 4 = .ok (.iconst 1, 1) := by decide +kernel
theorem dX0_lastPeak_5 : decode cX0_lastPeak 5 = .ok (.if_icmp .ge 7, 3) := by decide +kernel
theorem dX0_lastPeak_12 : decode cX0_lastPeak 12 = .ok (.aload_n 0, 1) := by decide +kernel
theorem dX0_lastPeak_13 : decode cX0_lastPeak 13 = .ok (.getfield 37, 3) := by decide +kernel
theorem dX0_lastPeak_16 : decode cX0_lastPeak 16 = .ok (.aload_n 0, 1) := by decide +kernel
theorem dX0_lastPeak_17 : decode cX0_lastPeak 17 = .ok (.getfield 40, 3) := by decide +kernel
theorem dX0_lastPeak_20 : decode cX0_lastPeak 20 = .ok (.iconst 1, 1) := by decide +kernel
theorem dX0_lastPeak_21 : decode cX0_lastPeak 21 = .ok (.isub, 1) := by decide +kernel
theorem dX0_lastPeak_22 : decode cX0_lastPeak 22 = .ok (.iaload, 1) := by decide +kernel
theorem dX0_lastPeak_23 : decode cX0_lastPeak 23 = .ok (.ireturn, 1) := by decide +kernel
theorem dX0_playTone_0 : decode cX0_playTone 0 = .ok (.aload_n 0, 1) := by decide +kernel
theorem dX0_playTone_1 : decode cX0_playTone 1 = .ok (.invokevirtual 79, 3) := by decide +kernel
theorem dX0_playTone_4 : decode cX0_playTone 4 = .ok (.aload_n 0, 1) := by decide +kernel
theorem dX0_playTone_5 : decode cX0_playTone 5 = .ok (.iload_n 1, 1) := by decide +kernel
theorem dX0_playTone_6 : decode cX0_playTone 6 = .ok (.sipush 256, 3) := by decide +kernel
theorem dX0_playTone_9 : decode cX0_playTone 9 = .ok (.invokevirtual 82, 3) := by decide +kernel
theorem dX0_playTone_12 : decode cX0_playTone 12 = .ok (.return_, 1) := by decide +kernel
theorem dX0_pullAll_0 : decode cX0_pullAll 0 = .ok (.lload_n 1, 1) := by decide +kernel
theorem dX0_pullAll_1 : decode cX0_pullAll 1 = .ok (.lstore 5, 2) := by decide +kernel
theorem dX0_pullAll_3 : decode cX0_pullAll 3 = .ok (.lload_n 3, 1) := by decide +kernel
theorem dX0_pullAll_4 : decode cX0_pullAll 4 = .ok (.lstore 7, 2) := by decide +kernel
theorem dX0_pullAll_6 : decode cX0_pullAll 6 = .ok (.iconst 0, 1) := by decide +kernel
theorem dX0_pullAll_7 : decode cX0_pullAll 7 = .ok (.istore 9, 2) := by decide +kernel
theorem dX0_pullAll_9 : decode cX0_pullAll 9 = .ok (.iload 9, 2) := by decide +kernel
theorem dX0_pullAll_11 : decode cX0_pullAll 11 = .ok (.aload_n 0, 1) := by decide +kernel
theorem dX0_pullAll_12 : decode cX0_pullAll 12 = .ok (.getfield 40, 3) := by decide +kernel
theorem dX0_pullAll_15 : decode cX0_pullAll 15 = .ok (.if_icmp .ge 73, 3) := by decide +kernel
theorem dX0_pullAll_18 : decode cX0_pullAll 18 = .ok (.aload_n 0, 1) := by decide +kernel
theorem dX0_pullAll_19 : decode cX0_pullAll 19 = .ok (.getfield 34, 3) := by decide +kernel
theorem dX0_pullAll_22 : decode cX0_pullAll 22 = .ok (.iload 9, 2) := by decide +kernel
theorem dX0_pullAll_24 : decode cX0_pullAll 24 = .ok (.aload_n 0, 1) := by decide +kernel
theorem dX0_pullAll_25 : decode cX0_pullAll 25 = .ok (.getfield 18, 3) := by decide +kernel
theorem dX0_pullAll_28 : decode cX0_pullAll 28 = .ok (.iload 9, 2) := by decide +kernel
theorem dX0_pullAll_30 : decode cX0_pullAll 30 = .ok (.iaload, 1) := by decide +kernel
theorem dX0_pullAll_31 : decode cX0_pullAll 31 = .ok (.i2l, 1) := by decide +kernel
theorem dX0_pullAll_32 : decode cX0_pullAll 32 = .ok (.lload 5, 2) := by decide +kernel
theorem dX0_pullAll_34 : decode cX0_pullAll 34 = .ok (.aload_n 0, 1) := by decide +kernel
theorem dX0_pullAll_35 : decode cX0_pullAll 35 = .ok (.getfield 27, 3) := by decide +kernel
theorem dX0_pullAll_38 : decode cX0_pullAll 38 = .ok (.iload 9, 2) := by decide +kernel
theorem dX0_pullAll_40 : decode cX0_pullAll 40 = .ok (.laload, 1) := by decide +kernel
theorem dX0_pullAll_41 : decode cX0_pullAll 41 = .ok (.lsub, 1) := by decide +kernel
theorem dX0_pullAll_42 : decode cX0_pullAll 42 = .ok (.lmul, 1) := by decide +kernel
theorem dX0_pullAll_43 : decode cX0_pullAll 43 = .ok (.aload_n 0, 1) := by decide +kernel
theorem dX0_pullAll_44 : decode cX0_pullAll 44 = .ok (.getfield 21, 3) := by decide +kernel
theorem dX0_pullAll_47 : decode cX0_pullAll 47 = .ok (.iload 9, 2) := by decide +kernel
theorem dX0_pullAll_49 : decode cX0_pullAll 49 = .ok (.iaload, 1) := by decide +kernel
theorem dX0_pullAll_50 : decode cX0_pullAll 50 = .ok (.i2l, 1) := by decide +kernel
theorem dX0_pullAll_51 : decode cX0_pullAll 51 = .ok (.lload 7, 2) := by decide +kernel
theorem dX0_pullAll_53 : decode cX0_pullAll 53 = .ok (.aload_n 0, 1) := by decide +kernel
theorem dX0_pullAll_54 : decode cX0_pullAll 54 = .ok (.getfield 31, 3) := by decide +kernel
theorem dX0_pullAll_57 : decode cX0_pullAll 57 = .ok (.iload 9, 2) := by decide +kernel
theorem dX0_pullAll_59 : decode cX0_pullAll 59 = .ok (.laload, 1) := by decide +kernel
theorem dX0_pullAll_60 : decode cX0_pullAll 60 = .ok (.lsub, 1) := by decide +kernel
theorem dX0_pullAll_61 : decode cX0_pullAll 61 = .ok (.lmul, 1) := by decide +kernel
theorem dX0_pullAll_62 : decode cX0_pullAll 62 = .ok (.ladd, 1) := by decide +kernel
theorem dX0_pullAll_63 : decode cX0_pullAll 63 = .ok (.lastore, 1) := by decide +kernel
theorem dX0_pullAll_64 : decode cX0_pullAll 64 = .ok (.aload_n 0, 1) := by decide +kernel
theorem dX0_pullAll_65 : decode cX0_pullAll 65 = .ok (.getfield 27, 3) := by decide +kernel
theorem dX0_pullAll_68 : decode cX0_pullAll 68 = .ok (.iload 9, 2) := by decide +kernel
theorem dX0_pullAll_70 : decode cX0_pullAll 70 = .ok (.laload, 1) := by decide +kernel
theorem dX0_pullAll_71 : decode cX0_pullAll 71 = .ok (.lstore 5, 2) := by decide +kernel
theorem dX0_pullAll_73 : decode cX0_pullAll 73 = .ok (.aload_n 0, 1) := by decide +kernel
theorem dX0_pullAll_74 : decode cX0_pullAll 74 = .ok (.getfield 31, 3) := by decide +kernel
theorem dX0_pullAll_77 : decode cX0_pullAll 77 = .ok (.iload 9, 2) := by decide +kernel
theorem dX0_pullAll_79 : decode cX0_pullAll 79 = .ok (.laload, 1) := by decide +kernel
theorem dX0_pullAll_80 : decode cX0_pullAll 80 = .ok (.lstore 7, 2) := by decide +kernel
theorem dX0_pullAll_82 : decode cX0_pullAll 82 = .ok (.iinc 9 1, 3) := by decide +kernel
theorem dX0_pullAll_85 : decode cX0_pullAll 85 = .ok (.goto (-76), 3) := by decide +kernel
theorem dX0_pullAll_88 : decode cX0_pullAll 88 = .ok (.return_, 1) := by decide +kernel
theorem dX0_rest_0 : decode cX0_rest 0 = .ok (.aload_n 0, 1) := by decide +kernel
theorem dX0_rest_1 : decode cX0_rest 1 = .ok (.lconst 0, 1) := by decide +kernel
theorem dX0_rest_2 : decode cX0_rest 2 = .ok (.putfield 48, 3) := by decide +kernel
theorem dX0_rest_5 : decode cX0_rest 5 = .ok (.iconst 0, 1) := by decide +kernel
theorem dX0_rest_6 : decode cX0_rest 6 = .ok (.istore_n 1, 1) := by decide +kernel
theorem dX0_rest_7 : decode cX0_rest 7 = .ok (.iload_n 1, 1) := by decide +kernel
theorem dX0_rest_8 : decode cX0_rest 8 = .ok (.iconst 4, 1) := by decide +kernel
theorem dX0_rest_9 : decode cX0_rest 9 = .ok (.if_icmp .ge 30, 3) := by decide +kernel
theorem dX0_rest_12 : decode cX0_rest 12 = .ok (.aload_n 0, 1) := by decide +kernel
theorem dX0_rest_13 : decode cX0_rest 13 = .ok (.getfield 27, 3) := by decide +kernel
theorem dX0_rest_16 : decode cX0_rest 16 = .ok (.iload_n 1, 1) := by decide +kernel
theorem dX0_rest_17 : decode cX0_rest 17 = .ok (.lconst 0, 1) := by decide +kernel
theorem dX0_rest_18 : decode cX0_rest 18 = .ok (.lastore, 1) := by decide +kernel
theorem dX0_rest_19 : decode cX0_rest 19 = .ok (.aload_n 0, 1) := by decide +kernel
theorem dX0_rest_20 : decode cX0_rest 20 = .ok (.getfield 31, 3) := by decide +kernel
theorem dX0_rest_23 : decode cX0_rest 23 = .ok (.iload_n 1, 1) := by decide +kernel
theorem dX0_rest_24 : decode cX0_rest 24 = .ok (.lconst 0, 1) := by decide +kernel
theorem dX0_rest_25 : decode cX0_rest 25 = .ok (.lastore, 1) := by decide +kernel
theorem dX0_rest_26 : decode cX0_rest 26 = .ok (.aload_n 0, 1) := by decide +kernel
theorem dX0_rest_27 : decode cX0_rest 27 = .ok (.getfield 37, 3) := by decide +kernel
theorem dX0_rest_30 : decode cX0_rest 30 = .ok (.iload_n 1, 1) := by decide +kernel
theorem dX0_rest_31 : decode cX0_rest 31 = .ok (.iconst 0, 1) := by decide +kernel
theorem dX0_rest_32 : decode cX0_rest 32 = .ok (.iastore, 1) := by decide +kernel
theorem dX0_rest_33 : decode cX0_rest 33 = .ok (.iinc 1 1, 3) := by decide +kernel
theorem dX0_rest_36 : decode cX0_rest 36 = .ok (.goto (-29), 3) := by decide +kernel
theorem dX0_rest_39 : decode cX0_rest 39 = .ok (.return_, 1) := by decide +kernel
theorem dX0_stepTo_0 : decode cX0_stepTo 0 = .ok (.aload_n 0, 1) := by decide +kernel
theorem dX0_stepTo_1 : decode cX0_stepTo 1 = .ok (.iload_n 1, 1) := by decide +kernel
theorem dX0_stepTo_2 : decode cX0_stepTo 2 = .ok (.i2l, 1) := by decide +kernel
theorem dX0_stepTo_3 : decode cX0_stepTo 3 = .ok (.ldc2_w 52, 3) := by decide +kernel
theorem dX0_stepTo_6 : decode cX0_stepTo 6 = .ok (.iload_n 1, 1) := by decide +kernel
theorem dX0_stepTo_7 : decode cX0_stepTo 7 = .ok (.i2l, 1) := by decide +kernel
theorem dX0_stepTo_8 : decode cX0_stepTo 8 = .ok (.aload_n 0, 1) := by decide +kernel
theorem dX0_stepTo_9 : decode cX0_stepTo 9 = .ok (.getfield 48, 3) := by decide +kernel
theorem dX0_stepTo_12 : decode cX0_stepTo 12 = .ok (.lsub, 1) := by decide +kernel
theorem dX0_stepTo_13 : decode cX0_stepTo 13 = .ok (.lmul, 1) := by decide +kernel
theorem dX0_stepTo_14 : decode cX0_stepTo 14 = .ok (.invokevirtual 54, 3) := by decide +kernel
theorem dX0_stepTo_17 : decode cX0_stepTo 17 = .ok (.aload_n 0, 1) := by decide +kernel
theorem dX0_stepTo_18 : decode cX0_stepTo 18 = .ok (.iload_n 1, 1) := by decide +kernel
theorem dX0_stepTo_19 : decode cX0_stepTo 19 = .ok (.i2l, 1) := by decide +kernel
theorem dX0_stepTo_20 : decode cX0_stepTo 20 = .ok (.putfield 48, 3) := by decide +kernel
theorem dX0_stepTo_23 : decode cX0_stepTo 23 = .ok (.iconst 0, 1) := by decide +kernel
theorem dX0_stepTo_24 : decode cX0_stepTo 24 = .ok (.istore_n 2, 1) := by decide +kernel
theorem dX0_stepTo_25 : decode cX0_stepTo 25 = .ok (.iload_n 2, 1) := by decide +kernel
theorem dX0_stepTo_26 : decode cX0_stepTo 26 = .ok (.aload_n 0, 1) := by decide +kernel
theorem dX0_stepTo_27 : decode cX0_stepTo 27 = .ok (.getfield 40, 3) := by decide +kernel
theorem dX0_stepTo_30 : decode cX0_stepTo 30 = .ok (.if_icmp .ge 123, 3) := by decide +kernel
theorem dX0_stepTo_33 : decode cX0_stepTo 33 = .ok (.iload_n 2, 1) := by decide +kernel
theorem dX0_stepTo_34 : decode cX0_stepTo 34 = .ok (.iconst 1, 1) := by decide +kernel
theorem dX0_stepTo_35 : decode cX0_stepTo 35 = .ok (.iadd, 1) := by decide +kernel
theorem dX0_stepTo_36 : decode cX0_stepTo 36 = .ok (.aload_n 0, 1) := by decide +kernel
theorem dX0_stepTo_37 : decode cX0_stepTo 37 = .ok (.getfield 40, 3) := by decide +kernel
theorem dX0_stepTo_40 : decode cX0_stepTo 40 = .ok (.if_icmp .ge 14, 3) := by decide +kernel
theorem dX0_stepTo_54 : decode cX0_stepTo 54 = .ok (.lconst 0, 1) := by decide +kernel
theorem dX0_stepTo_55 : decode cX0_stepTo 55 = .ok (.lstore_n 3, 1) := by decide +kernel
theorem dX0_stepTo_56 : decode cX0_stepTo 56 = .ok (.aload_n 0, 1) := by decide +kernel
theorem dX0_stepTo_57 : decode cX0_stepTo 57 = .ok (.getfield 34, 3) := by decide +kernel
theorem dX0_stepTo_60 : decode cX0_stepTo 60 = .ok (.iload_n 2, 1) := by decide +kernel
theorem dX0_stepTo_61 : decode cX0_stepTo 61 = .ok (.laload, 1) := by decide +kernel
theorem dX0_stepTo_62 : decode cX0_stepTo 62 = .ok (.lload_n 3, 1) := by decide +kernel
theorem dX0_stepTo_63 : decode cX0_stepTo 63 = .ok (.lsub, 1) := by decide +kernel
theorem dX0_stepTo_64 : decode cX0_stepTo 64 = .ok (.ldc2_w 52, 3) := by decide +kernel
theorem dX0_stepTo_67 : decode cX0_stepTo 67 = .ok (.aload_n 0, 1) := by decide +kernel
theorem dX0_stepTo_68 : decode cX0_stepTo 68 = .ok (.getfield 9, 3) := by decide +kernel
theorem dX0_stepTo_71 : decode cX0_stepTo 71 = .ok (.iload_n 2, 1) := by decide +kernel
theorem dX0_stepTo_72 : decode cX0_stepTo 72 = .ok (.iaload, 1) := by decide +kernel
theorem dX0_stepTo_73 : decode cX0_stepTo 73 = .ok (.i2l, 1) := by decide +kernel
theorem dX0_stepTo_74 : decode cX0_stepTo 74 = .ok (.lmul, 1) := by decide +kernel
theorem dX0_stepTo_75 : decode cX0_stepTo 75 = .ok (.ldiv, 1) := by decide +kernel
theorem dX0_stepTo_76 : decode cX0_stepTo 76 = .ok (.lstore 5, 2) := by decide +kernel
theorem dX0_stepTo_78 : decode cX0_stepTo 78 = .ok (.aload_n 0, 1) := by decide +kernel
theorem dX0_stepTo_79 : decode cX0_stepTo 79 = .ok (.getfield 31, 3) := by decide +kernel
theorem dX0_stepTo_82 : decode cX0_stepTo 82 = .ok (.iload_n 2, 1) := by decide +kernel
theorem dX0_stepTo_83 : decode cX0_stepTo 83 = .ok (.aload_n 0, 1) := by decide +kernel
theorem dX0_stepTo_84 : decode cX0_stepTo 84 = .ok (.getfield 31, 3) := by decide +kernel
theorem dX0_stepTo_87 : decode cX0_stepTo 87 = .ok (.iload_n 2, 1) := by decide +kernel
theorem dX0_stepTo_88 : decode cX0_stepTo 88 = .ok (.laload, 1) := by decide +kernel
theorem dX0_stepTo_89 : decode cX0_stepTo 89 = .ok (.lload 5, 2) := by decide +kernel
theorem dX0_stepTo_91 : decode cX0_stepTo 91 = .ok (.ladd, 1) := by decide +kernel
theorem dX0_stepTo_92 : decode cX0_stepTo 92 = .ok (.invokestatic 58, 3) := by decide +kernel
theorem dX0_stepTo_95 : decode cX0_stepTo 95 = .ok (.lastore, 1) := by decide +kernel
theorem dX0_stepTo_96 : decode cX0_stepTo 96 = .ok (.aload_n 0, 1) := by decide +kernel
theorem dX0_stepTo_97 : decode cX0_stepTo 97 = .ok (.getfield 27, 3) := by decide +kernel
theorem dX0_stepTo_100 : decode cX0_stepTo 100 = .ok (.iload_n 2, 1) := by decide +kernel
theorem dX0_stepTo_101 : decode cX0_stepTo 101 = .ok (.aload_n 0, 1) := by decide +kernel
theorem dX0_stepTo_102 : decode cX0_stepTo 102 = .ok (.getfield 27, 3) := by decide +kernel
theorem dX0_stepTo_105 : decode cX0_stepTo 105 = .ok (.iload_n 2, 1) := by decide +kernel
theorem dX0_stepTo_106 : decode cX0_stepTo 106 = .ok (.laload, 1) := by decide +kernel
theorem dX0_stepTo_107 : decode cX0_stepTo 107 = .ok (.aload_n 0, 1) := by decide +kernel
theorem dX0_stepTo_108 : decode cX0_stepTo 108 = .ok (.getfield 31, 3) := by decide +kernel
theorem dX0_stepTo_111 : decode cX0_stepTo 111 = .ok (.iload_n 2, 1) := by decide +kernel
theorem dX0_stepTo_112 : decode cX0_stepTo 112 = .ok (.laload, 1) := by decide +kernel
theorem dX0_stepTo_113 : decode cX0_stepTo 113 = .ok (.ldc2_w 52, 3) := by decide +kernel
theorem dX0_stepTo_116 : decode cX0_stepTo 116 = .ok (.ldiv, 1) := by decide +kernel
theorem dX0_stepTo_117 : decode cX0_stepTo 117 = .ok (.ladd, 1) := by decide +kernel
theorem dX0_stepTo_118 : decode cX0_stepTo 118 = .ok (.invokestatic 58, 3) := by decide +kernel
theorem dX0_stepTo_121 : decode cX0_stepTo 121 = .ok (.lastore, 1) := by decide +kernel
theorem dX0_stepTo_122 : decode cX0_stepTo 122 = .ok (.aload_n 0, 1) := by decide +kernel
theorem dX0_stepTo_123 : decode cX0_stepTo 123 = .ok (.getfield 37, 3) := by decide +kernel
theorem dX0_stepTo_126 : decode cX0_stepTo 126 = .ok (.iload_n 2, 1) := by decide +kernel
theorem dX0_stepTo_127 : decode cX0_stepTo 127 = .ok (.aload_n 0, 1) := by decide +kernel
theorem dX0_stepTo_128 : decode cX0_stepTo 128 = .ok (.getfield 37, 3) := by decide +kernel
theorem dX0_stepTo_131 : decode cX0_stepTo 131 = .ok (.iload_n 2, 1) := by decide +kernel
theorem dX0_stepTo_132 : decode cX0_stepTo 132 = .ok (.iaload, 1) := by decide +kernel
theorem dX0_stepTo_133 : decode cX0_stepTo 133 = .ok (.aload_n 0, 1) := by decide +kernel
theorem dX0_stepTo_134 : decode cX0_stepTo 134 = .ok (.getfield 27, 3) := by decide +kernel
theorem dX0_stepTo_137 : decode cX0_stepTo 137 = .ok (.iload_n 2, 1) := by decide +kernel
theorem dX0_stepTo_138 : decode cX0_stepTo 138 = .ok (.laload, 1) := by decide +kernel
theorem dX0_stepTo_139 : decode cX0_stepTo 139 = .ok (.invokestatic 62, 3) := by decide +kernel
theorem dX0_stepTo_142 : decode cX0_stepTo 142 = .ok (.l2i, 1) := by decide +kernel
theorem dX0_stepTo_143 : decode cX0_stepTo 143 = .ok (.invokestatic 67, 3) := by decide +kernel
theorem dX0_stepTo_146 : decode cX0_stepTo 146 = .ok (.iastore, 1) := by decide +kernel
theorem dX0_stepTo_147 : decode cX0_stepTo 147 = .ok (.iinc 2 1, 3) := by decide +kernel
theorem dX0_stepTo_150 : decode cX0_stepTo 150 = .ok (.goto (-125), 3) := by decide +kernel
theorem dX0_stepTo_153 : decode cX0_stepTo 153 = .ok (.return_, 1) := by decide +kernel
theorem dX0_within_0 : decode cX0_within 0 = .ok (.lload_n 0, 1) := by decide +kernel
theorem dX0_within_1 : decode cX0_within 1 = .ok (.ldc2_w 71, 3) := by decide +kernel
theorem dX0_within_4 : decode cX0_within 4 = .ok (.lcmp, 1) := by decide +kernel
theorem dX0_within_5 : decode cX0_within 5 = .ok (.ifCond .le 7, 3) := by decide +kernel
theorem dX0_within_8 : decode cX0_within 8 = .ok (.ldc2_w 71, 3) := by decide +kernel
theorem dX0_within_11 : decode cX0_within 11 = .ok (.lreturn, 1) := by decide +kernel
theorem dX0_within_12 : decode cX0_within 12 = .ok (.lload_n 0, 1) := by decide +kernel
theorem dX0_within_13 : decode cX0_within 13 = .ok (.ldc2_w 73, 3) := by decide +kernel
theorem dX0_within_16 : decode cX0_within 16 = .ok (.lcmp, 1) := by decide +kernel
theorem dX0_within_17 : decode cX0_within 17 = .ok (.ifCond .ge 9, 3) := by decide +kernel
theorem dX0_within_20 : decode cX0_within 20 = .ok (.ldc2_w 73, 3) := by decide +kernel
theorem dX0_within_23 : decode cX0_within 23 = .ok (.goto 4, 3) := by decide +kernel
theorem dX0_within_26 : decode cX0_within 26 = .ok (.lload_n 0, 1) := by decide +kernel
theorem dX0_within_27 : decode cX0_within 27 = .ok (.lreturn, 1) := by decide +kernel
theorem dX10_addMass_13 : decode cX10_addMass 13 = .ok (.aload_n 0, 1) := by decide +kernel
theorem dX10_addMass_14 : decode cX10_addMass 14 = .ok (.iload_n 2, 1) := by decide +kernel
theorem dX10_addMass_15 : decode cX10_addMass 15 = .ok (.iconst 1, 1) := by decide +kernel
theorem dX10_addMass_16 : decode cX10_addMass 16 = .ok (.bipush 99, 2) := by decide +kernel
theorem dX10_addMass_18 : decode cX10_addMass 18 = .ok (.invokestatic 36, 3) := by decide +kernel
theorem dX10_addMass_21 : decode cX10_addMass 21 = .ok (.ifCond .eq 25, 3) := by decide +kernel
theorem dX10_addMass_24 : decode cX10_addMass 24 = .ok (.iload_n 3, 1) := by decide +kernel
theorem dX10_addMass_25 : decode cX10_addMass 25 = .ok (.iconst 1, 1) := by decide +kernel
theorem dX10_addMass_26 : decode cX10_addMass 26 = .ok (.sipush 9999, 3) := by decide +kernel
theorem dX10_addMass_29 : decode cX10_addMass 29 = .ok (.invokestatic 36, 3) := by decide +kernel
theorem dX10_addMass_32 : decode cX10_addMass 32 = .ok (.ifCond .eq 14, 3) := by decide +kernel
theorem dX10_addMass_35 : decode cX10_addMass 35 = .ok (.iload 4, 2) := by decide +kernel
theorem dX10_addMass_37 : decode cX10_addMass 37 = .ok (.iconst 0, 1) := by decide +kernel
theorem dX10_addMass_38 : decode cX10_addMass 38 = .ok (.bipush 99, 2) := by decide +kernel
theorem dX10_addMass_40 : decode cX10_addMass 40 = .ok (.invokestatic 36, 3) := by decide +kernel
theorem dX10_addMass_43 : decode cX10_addMass 43 = .ok (.ifCond .ne 7, 3) := by decide +kernel
theorem dX10_addMass_50 : decode cX10_addMass 50 = .ok (.iconst 0, 1) := by decide +kernel
theorem dX10_addMass_51 : decode cX10_addMass 51 = .ok (.iconst 2, 1) := by decide +kernel
theorem dX10_addMass_52 : decode cX10_addMass 52 = .ok (.invokevirtual 60, 3) := by decide +kernel
theorem dX10_addMass_55 : decode cX10_addMass 55 = .ok (.ifCond .ne 37, 3) := by decide +kernel
theorem dX10_addMass_58 : decode cX10_addMass 58 = .ok (.aload_n 0, 1) := by decide +kernel
theorem dX10_addMass_59 : decode cX10_addMass 59 = .ok (.aload_n 0, 1) := by decide +kernel
theorem dX10_addMass_60 : decode cX10_addMass 60 = .ok (.getfield 10, 3) := by decide +kernel
theorem dX10_addMass_63 : decode cX10_addMass 63 = .ok (.iload_n 1, 1) := by decide +kernel
theorem dX10_addMass_64 : decode cX10_addMass 64 = .ok (.invokevirtual 44, 3) := by decide +kernel
theorem dX10_addMass_67 : decode cX10_addMass 67 = .ok (.checkcast 48, 3) := by decide +kernel
theorem dX10_addMass_70 : decode cX10_addMass 70 = .ok (.getfield 53, 3) := by decide +kernel
theorem dX10_addMass_73 : decode cX10_addMass 73 = .ok (.invokevirtual 32, 3) := by decide +kernel
theorem dX10_addMass_76 : decode cX10_addMass 76 = .ok (.iconst 4, 1) := by decide +kernel
theorem dX10_addMass_77 : decode cX10_addMass 77 = .ok (.if_icmp .ne 7, 3) := by decide +kernel
theorem dX10_addMass_84 : decode cX10_addMass 84 = .ok (.iconst 0, 1) := by decide +kernel
theorem dX10_addMass_85 : decode cX10_addMass 85 = .ok (.iconst 3, 1) := by decide +kernel
theorem dX10_addMass_86 : decode cX10_addMass 86 = .ok (.invokevirtual 60, 3) := by decide +kernel
theorem dX10_addMass_89 : decode cX10_addMass 89 = .ok (.ifCond .eq 5, 3) := by decide +kernel
theorem dX10_addMass_94 : decode cX10_addMass 94 = .ok (.aload_n 0, 1) := by decide +kernel
theorem dX10_addMass_95 : decode cX10_addMass 95 = .ok (.getfield 10, 3) := by decide +kernel
theorem dX10_addMass_98 : decode cX10_addMass 98 = .ok (.iload_n 1, 1) := by decide +kernel
theorem dX10_addMass_99 : decode cX10_addMass 99 = .ok (.invokevirtual 44, 3) := by decide +kernel
theorem dX10_addMass_102 : decode cX10_addMass 102 = .ok (.checkcast 48, 3) := by decide +kernel
theorem dX10_addMass_105 : decode cX10_addMass 105 = .ok (.getfield 53, 3) := by decide +kernel
theorem dX10_addMass_108 : decode cX10_addMass 108 = .ok (.iconst 4, 1) := by decide +kernel
theorem dX10_addMass_109 : decode cX10_addMass 109 = .ok (.newarray .int, 2) := by decide +kernel
theorem dX10_addMass_111 : decode cX10_addMass 111 = .ok (.dup, 1) := by decide +kernel
theorem dX10_addMass_112 : decode cX10_addMass 112 = .ok (.iconst 0, 1) := by decide +kernel
theorem dX10_addMass_113 : decode cX10_addMass 113 = .ok (.iload_n 2, 1) := by decide +kernel
theorem dX10_addMass_114 : decode cX10_addMass 114 = .ok (.iastore, 1) := by decide +kernel
theorem dX10_addMass_115 : decode cX10_addMass 115 = .ok (.dup, 1) := by decide +kernel
theorem dX10_addMass_116 : decode cX10_addMass 116 = .ok (.iconst 1, 1) := by decide +kernel
theorem dX10_addMass_117 : decode cX10_addMass 117 = .ok (.iload_n 3, 1) := by decide +kernel
theorem dX10_addMass_118 : decode cX10_addMass 118 = .ok (.iastore, 1) := by decide +kernel
theorem dX10_addMass_119 : decode cX10_addMass 119 = .ok (.dup, 1) := by decide +kernel
theorem dX10_addMass_120 : decode cX10_addMass 120 = .ok (.iconst 2, 1) := by decide +kernel
theorem dX10_addMass_121 : decode cX10_addMass 121 = .ok (.iload 4, 2) := by decide +kernel
theorem dX10_addMass_123 : decode cX10_addMass 123 = .ok (.iastore, 1) := by decide +kernel
theorem dX10_addMass_124 : decode cX10_addMass 124 = .ok (.dup, 1) := by decide +kernel
theorem dX10_addMass_125 : decode cX10_addMass 125 = .ok (.iconst 3, 1) := by decide +kernel
theorem dX10_addMass_126 : decode cX10_addMass 126 = .ok (.iconst 0, 1) := by decide +kernel
theorem dX10_addMass_127 : decode cX10_addMass 127 = .ok (.iastore, 1) := by decide +kernel
theorem dX10_addMass_128 : decode cX10_addMass 128 = .ok (.invokevirtual 65, 3) := by decide +kernel
theorem dX10_addMass_131 : decode cX10_addMass 131 = .ok (.pop, 1) := by decide +kernel
theorem dX10_addMass_132 : decode cX10_addMass 132 = .ok (.aload_n 0, 1) := by decide +kernel
theorem dX10_addMass_133 : decode cX10_addMass 133 = .ok (.getfield 10, 3) := by decide +kernel
theorem dX10_addMass_136 : decode cX10_addMass 136 = .ok (.iload_n 1, 1) := by decide +kernel
theorem dX10_addMass_137 : decode cX10_addMass 137 = .ok (.invokevirtual 44, 3) := by decide +kernel
theorem dX10_addMass_140 : decode cX10_addMass 140 = .ok (.checkcast 48, 3) := by decide +kernel
theorem dX10_addMass_143 : decode cX10_addMass 143 = .ok (.getfield 53, 3) := by decide +kernel
theorem dX10_addMass_146 : decode cX10_addMass 146 = .ok (.invokevirtual 32, 3) := by decide +kernel
theorem dX10_addMass_149 : decode cX10_addMass 149 = .ok (.ireturn, 1) := by decide +kernel
theorem dX10_getResonance_13 : decode cX10_getResonance 13 = .ok (.aload_n 0, 1) := by decide +kernel
theorem dX10_getResonance_14 : decode cX10_getResonance 14 = .ok (.aload_n 0, 1) := by decide +kernel
theorem dX10_getResonance_15 : decode cX10_getResonance 15 = .ok (.iload_n 1, 1) := by decide +kernel
theorem dX10_getResonance_16 : decode cX10_getResonance 16 = .ok (.invokevirtual 107, 3) := by decide +kernel
theorem dX10_getResonance_19 : decode cX10_getResonance 19 = .ok (.iconst 2, 1) := by decide +kernel
theorem dX10_getResonance_20 : decode cX10_getResonance 20 = .ok (.invokevirtual 60, 3) := by decide +kernel
theorem dX10_getResonance_23 : decode cX10_getResonance 23 = .ok (.ifCond .eq 7, 3) := by decide +kernel
theorem dX10_getResonance_30 : decode cX10_getResonance 30 = .ok (.aload_n 0, 1) := by decide +kernel
theorem dX10_getResonance_31 : decode cX10_getResonance 31 = .ok (.iload_n 1, 1) := by decide +kernel
theorem dX10_getResonance_32 : decode cX10_getResonance 32 = .ok (.invokevirtual 110, 3) := by decide +kernel
theorem dX10_isBare_0 : decode cX10_isBare 0 = .ok (.aload_n 0, 1) := by decide +kernel
theorem dX10_isBare_1 : decode cX10_isBare 1 = .ok (.getfield 10, 3) := by decide +kernel
theorem dX10_isBare_4 : decode cX10_isBare 4 = .ok (.iload_n 1, 1) := by decide +kernel
theorem dX10_isBare_5 : decode cX10_isBare 5 = .ok (.invokevirtual 44, 3) := by decide +kernel
theorem dX10_isBare_8 : decode cX10_isBare 8 = .ok (.checkcast 48, 3) := by decide +kernel
theorem dX10_isBare_11 : decode cX10_isBare 11 = .ok (.getfield 53, 3) := by decide +kernel
theorem dX10_isBare_14 : decode cX10_isBare 14 = .ok (.invokevirtual 56, 3) := by decide +kernel
theorem dX10_isBare_17 : decode cX10_isBare 17 = .ok (.ireturn, 1) := by decide +kernel
theorem dX10_isNoStructure_21 : decode cX10_isNoStructure 21 = .ok (.iconst 0, 1) := by decide +kernel
theorem dX10_lastResponse_0 : decode cX10_lastResponse 0 = .ok (.aload_n 0, 1) := by decide +kernel
theorem dX10_lastResponse_1 : decode cX10_lastResponse 1 = .ok (.iload_n 1, 1) := by decide +kernel
theorem dX10_lastResponse_2 : decode cX10_lastResponse 2 = .ok (.aload_n 0, 1) := by decide +kernel
theorem dX10_lastResponse_3 : decode cX10_lastResponse 3 = .ok (.getfield 10, 3) := by decide +kernel
theorem dX10_lastResponse_6 : decode cX10_lastResponse 6 = .ok (.iload_n 1, 1) := by decide +kernel
theorem dX10_lastResponse_7 : decode cX10_lastResponse 7 = .ok (.invokevirtual 44, 3) := by decide +kernel
theorem dX10_lastResponse_10 : decode cX10_lastResponse 10 = .ok (.checkcast 48, 3) := by decide +kernel
theorem dX10_lastResponse_13 : decode cX10_lastResponse 13 = .ok (.invokevirtual 50, 3) := by decide +kernel
theorem dX10_lastResponse_16 : decode cX10_lastResponse 16 = .ok (.iload_n 2, 1) := by decide +kernel
theorem dX10_lastResponse_17 : decode cX10_lastResponse 17 = .ok (.invokevirtual 100, 3) := by decide +kernel
theorem dX10_lastResponse_20 : decode cX10_lastResponse 20 = .ok (.ireturn, 1) := by decide +kernel
theorem dX10_resonance_0 : decode cX10_resonance 0 = .ok (.iconst 4, 1) := by decide +kernel
theorem dX10_resonance_1 : decode cX10_resonance 1 = .ok (.istore_n 2, 1) := by decide +kernel
theorem dX10_resonance_2 : decode cX10_resonance 2 = .ok (.aload_n 0, 1) := by decide +kernel
theorem dX10_resonance_3 : decode cX10_resonance 3 = .ok (.iload_n 1, 1) := by decide +kernel
theorem dX10_resonance_4 : decode cX10_resonance 4 = .ok (.iconst 4, 1) := by decide +kernel
theorem dX10_resonance_5 : decode cX10_resonance 5 = .ok (.invokevirtual 104, 3) := by decide +kernel
theorem dX10_resonance_8 : decode cX10_resonance 8 = .ok (.istore_n 3, 1) := by decide +kernel
theorem dX10_resonance_9 : decode cX10_resonance 9 = .ok (.iconst 5, 1) := by decide +kernel
theorem dX10_resonance_10 : decode cX10_resonance 10 = .ok (.istore 4, 2) := by decide +kernel
theorem dX10_resonance_12 : decode cX10_resonance 12 = .ok (.iload 4, 2) := by decide +kernel
theorem dX10_resonance_14 : decode cX10_resonance 14 = .ok (.bipush 64, 2) := by decide +kernel
theorem dX10_resonance_16 : decode cX10_resonance 16 = .ok (.if_icmp .gt 38, 3) := by decide +kernel
theorem dX10_resonance_19 : decode cX10_resonance 19 = .ok (.aload_n 0, 1) := by decide +kernel
theorem dX10_resonance_20 : decode cX10_resonance 20 = .ok (.iload_n 1, 1) := by decide +kernel
theorem dX10_resonance_21 : decode cX10_resonance 21 = .ok (.iload 4, 2) := by decide +kernel
theorem dX10_resonance_23 : decode cX10_resonance 23 = .ok (.invokevirtual 104, 3) := by decide +kernel
theorem dX10_resonance_26 : decode cX10_resonance 26 = .ok (.istore 5, 2) := by decide +kernel
theorem dX10_resonance_28 : decode cX10_resonance 28 = .ok (.iload 5, 2) := by decide +kernel
theorem dX10_resonance_30 : decode cX10_resonance 30 = .ok (.iload_n 3, 1) := by decide +kernel
theorem dX10_resonance_31 : decode cX10_resonance 31 = .ok (.if_icmp .le 8, 3) := by decide +kernel
theorem dX10_resonance_34 : decode cX10_resonance 34 = .ok (.iload 4, 2) := by decide +kernel
theorem dX10_resonance_36 : decode cX10_resonance 36 = .ok (.goto 4, 3) := by decide +kernel
theorem dX10_resonance_39 : decode cX10_resonance 39 = .ok (.iload_n 2, 1) := by decide +kernel
theorem dX10_resonance_40 : decode cX10_resonance 40 = .ok (.istore_n 2, 1) := by decide +kernel
theorem dX10_resonance_41 : decode cX10_resonance 41 = .ok (.iload_n 3, 1) := by decide +kernel
theorem dX10_resonance_42 : decode cX10_resonance 42 = .ok (.iload 5, 2) := by decide +kernel
theorem dX10_resonance_44 : decode cX10_resonance 44 = .ok (.invokestatic 95, 3) := by decide +kernel
theorem dX10_resonance_47 : decode cX10_resonance 47 = .ok (.istore_n 3, 1) := by decide +kernel
theorem dX10_resonance_48 : decode cX10_resonance 48 = .ok (.iinc 4 1, 3) := by decide +kernel
theorem dX10_resonance_51 : decode cX10_resonance 51 = .ok (.goto (-39), 3) := by decide +kernel
theorem dX10_resonance_54 : decode cX10_resonance 54 = .ok (.iload_n 2, 1) := by decide +kernel
theorem dX10_resonance_55 : decode cX10_resonance 55 = .ok (.ireturn, 1) := by decide +kernel
theorem dX10_response_0 : decode cX10_response 0 = .ok (.new 79, 3) := by decide +kernel
theorem dX10_response_3 : decode cX10_response 3 = .ok (.dup, 1) := by decide +kernel
theorem dX10_response_4 : decode cX10_response 4 = .ok (.aload_n 0, 1) := by decide +kernel
theorem dX10_response_5 : decode cX10_response 5 = .ok (.getfield 10, 3) := by decide +kernel
theorem dX10_response_8 : decode cX10_response 8 = .ok (.iload_n 1, 1) := by decide +kernel
theorem dX10_response_9 : decode cX10_response 9 = .ok (.invokevirtual 44, 3) := by decide +kernel
theorem dX10_response_12 : decode cX10_response 12 = .ok (.checkcast 48, 3) := by decide +kernel
theorem dX10_response_15 : decode cX10_response 15 = .ok (.invokespecial 81, 3) := by decide +kernel
theorem dX10_response_18 : decode cX10_response 18 = .ok (.astore 4, 2) := by decide +kernel
theorem dX10_response_20 : decode cX10_response 20 = .ok (.iconst 0, 1) := by decide +kernel
theorem dX10_response_21 : decode cX10_response 21 = .ok (.istore 5, 2) := by decide +kernel
theorem dX10_response_23 : decode cX10_response 23 = .ok (.iconst 0, 1) := by decide +kernel
theorem dX10_response_24 : decode cX10_response 24 = .ok (.istore 6, 2) := by decide +kernel
theorem dX10_response_26 : decode cX10_response 26 = .ok (.iload 6, 2) := by decide +kernel
theorem dX10_response_28 : decode cX10_response 28 = .ok (.sipush 256, 3) := by decide +kernel
theorem dX10_response_31 : decode cX10_response 31 = .ok (.if_icmp .ge 33, 3) := by decide +kernel
theorem dX10_response_34 : decode cX10_response 34 = .ok (.aload 4, 2) := by decide +kernel
theorem dX10_response_36 : decode cX10_response 36 = .ok (.iload 6, 2) := by decide +kernel
theorem dX10_response_38 : decode cX10_response 38 = .ok (.iload_n 3, 1) := by decide +kernel
theorem dX10_response_39 : decode cX10_response 39 = .ok (.invokestatic 84, 3) := by decide +kernel
theorem dX10_response_42 : decode cX10_response 42 = .ok (.invokevirtual 88, 3) := by decide +kernel
theorem dX10_response_45 : decode cX10_response 45 = .ok (.iload 5, 2) := by decide +kernel
theorem dX10_response_47 : decode cX10_response 47 = .ok (.aload 4, 2) := by decide +kernel
theorem dX10_response_49 : decode cX10_response 49 = .ok (.iload_n 2, 1) := by decide +kernel
theorem dX10_response_50 : decode cX10_response 50 = .ok (.invokevirtual 92, 3) := by decide +kernel
theorem dX10_response_53 : decode cX10_response 53 = .ok (.invokestatic 95, 3) := by decide +kernel
theorem dX10_response_56 : decode cX10_response 56 = .ok (.istore 5, 2) := by decide +kernel
theorem dX10_response_58 : decode cX10_response 58 = .ok (.iinc 6 1, 3) := by decide +kernel
theorem dX10_response_61 : decode cX10_response 61 = .ok (.goto (-35), 3) := by decide +kernel
theorem dX10_response_64 : decode cX10_response 64 = .ok (.iload 5, 2) := by decide +kernel
theorem dX10_response_66 : decode cX10_response 66 = .ok (.ireturn, 1) := by decide +kernel
theorem dX10_tone_0 : decode cX10_tone 0 = .ok (.iload_n 0, 1) := by decide +kernel
theorem dX10_tone_1 : decode cX10_tone 1 = .ok (.iload_n 1, 1) := by decide +kernel
theorem dX10_tone_2 : decode cX10_tone 2 = .ok (.irem, 1) := by decide +kernel
theorem dX10_tone_3 : decode cX10_tone 3 = .ok (.iload_n 1, 1) := by decide +kernel
theorem dX10_tone_4 : decode cX10_tone 4 = .ok (.iconst 2, 1) := by decide +kernel
theorem dX10_tone_5 : decode cX10_tone 5 = .ok (.idiv, 1) := by decide +kernel
theorem dX10_tone_6 : decode cX10_tone 6 = .ok (.if_icmp .ge 9, 3) := by decide +kernel
theorem dX10_tone_9 : decode cX10_tone 9 = .ok (.sipush 1600, 3) := by decide +kernel
theorem dX10_tone_12 : decode cX10_tone 12 = .ok (.goto 6, 3) := by decide +kernel
theorem dX10_tone_15 : decode cX10_tone 15 = .ok (.sipush (-1600), 3) := by decide +kernel
theorem dX10_tone_18 : decode cX10_tone 18 = .ok (.ireturn, 1) := by decide +kernel
theorem dX6_addMass_5 : decode cX6_addMass 5 = .ok (.getfield 65, 3) := by decide +kernel
theorem dX6_addMass_8 : decode cX6_addMass 8 = .ok (.astore 5, 2) := by decide +kernel
theorem dX6_addMass_10 : decode cX6_addMass 10 = .ok (.iload_n 2, 1) := by decide +kernel
theorem dX6_addMass_11 : decode cX6_addMass 11 = .ok (.iconst 1, 1) := by decide +kernel
theorem dX6_addMass_12 : decode cX6_addMass 12 = .ok (.bipush 99, 2) := by decide +kernel
theorem dX6_addMass_14 : decode cX6_addMass 14 = .ok (.invokestatic 68, 3) := by decide +kernel
theorem dX6_addMass_17 : decode cX6_addMass 17 = .ok (.iload_n 3, 1) := by decide +kernel
theorem dX6_addMass_18 : decode cX6_addMass 18 = .ok (.iconst 1, 1) := by decide +kernel
theorem dX6_addMass_19 : decode cX6_addMass 19 = .ok (.sipush 9999, 3) := by decide +kernel
theorem dX6_addMass_22 : decode cX6_addMass 22 = .ok (.invokestatic 68, 3) := by decide +kernel
theorem dX6_addMass_25 : decode cX6_addMass 25 = .ok (.iload 4, 2) := by decide +kernel
theorem dX6_addMass_27 : decode cX6_addMass 27 = .ok (.iconst 0, 1) := by decide +kernel
theorem dX6_addMass_28 : decode cX6_addMass 28 = .ok (.bipush 99, 2) := by decide +kernel
theorem dX6_addMass_30 : decode cX6_addMass 30 = .ok (.invokestatic 68, 3) := by decide +kernel
theorem dX6_addMass_33 : decode cX6_addMass 33 = .ok (.aload 5, 2) := by decide +kernel
theorem dX6_addMass_35 : decode cX6_addMass 35 = .ok (.getfield 72, 3) := by decide +kernel
theorem dX6_addMass_38 : decode cX6_addMass 38 = .ok (.iconst 4, 1) := by decide +kernel
theorem dX6_addMass_39 : decode cX6_addMass 39 = .ok (.if_icmp .lt 13, 3) := by decide +kernel
theorem dX6_addMass_52 : decode cX6_addMass 52 = .ok (.aload 5, 2) := by decide +kernel
theorem dX6_addMass_54 : decode cX6_addMass 54 = .ok (.iload_n 2, 1) := by decide +kernel
theorem dX6_addMass_55 : decode cX6_addMass 55 = .ok (.iload_n 3, 1) := by decide +kernel
theorem dX6_addMass_56 : decode cX6_addMass 56 = .ok (.iload 4, 2) := by decide +kernel
theorem dX6_addMass_58 : decode cX6_addMass 58 = .ok (.invokevirtual 78, 3) := by decide +kernel
theorem dX6_addMass_61 : decode cX6_addMass 61 = .ok (.aload 5, 2) := by decide +kernel
theorem dX6_addMass_63 : decode cX6_addMass 63 = .ok (.getfield 72, 3) := by decide +kernel
theorem dX6_addMass_66 : decode cX6_addMass 66 = .ok (.ireturn, 1) := by decide +kernel
theorem dX6_checkHasMasses_0 : decode cX6_checkHasMasses 0 = .ok (.aload_n 0, 1) := by decide +kernel
theorem dX6_checkHasMasses_1 : decode cX6_checkHasMasses 1 = .ok (.getfield 72, 3) := by decide +kernel
theorem dX6_checkHasMasses_4 : decode cX6_checkHasMasses 4 = .ok (.iconst 1, 1) := by decide +kernel
theorem dX6_checkHasMasses_5 : decode cX6_checkHasMasses 5 = .ok (.if_icmp .ge 14, 3) := by decide +kernel
theorem dX6_checkHasMasses_19 : decode cX6_checkHasMasses 19 = .ok (.return_, 1) := by decide +kernel
theorem dX6_getResonance_5 : decode cX6_getResonance 5 = .ok (.getfield 65, 3) := by decide +kernel
theorem dX6_getResonance_8 : decode cX6_getResonance 8 = .ok (.astore_n 2, 1) := by decide +kernel
theorem dX6_getResonance_9 : decode cX6_getResonance 9 = .ok (.aload_n 2, 1) := by decide +kernel
theorem dX6_getResonance_10 : decode cX6_getResonance 10 = .ok (.invokestatic 106, 3) := by decide +kernel
theorem dX6_getResonance_13 : decode cX6_getResonance 13 = .ok (.aload_n 2, 1) := by decide +kernel
theorem dX6_getResonance_14 : decode cX6_getResonance 14 = .ok (.invokevirtual 110, 3) := by decide +kernel
theorem dX6_getResonance_17 : decode cX6_getResonance 17 = .ok (.ireturn, 1) := by decide +kernel
theorem dX6_structureAt_26 : decode cX6_structureAt 26 = .ok (.aload_n 0, 1) := by decide +kernel
theorem dX6_structureAt_27 : decode cX6_structureAt 27 = .ok (.getfield 10, 3) := by decide +kernel
theorem dX6_structureAt_30 : decode cX6_structureAt 30 = .ok (.iload_n 1, 1) := by decide +kernel
theorem dX6_structureAt_31 : decode cX6_structureAt 31 = .ok (.invokevirtual 378, 3) := by decide +kernel
theorem dX6_structureAt_34 : decode cX6_structureAt 34 = .ok (.checkcast 54, 3) := by decide +kernel
theorem dX6_structureAt_37 : decode cX6_structureAt 37 = .ok (.areturn, 1) := by decide +kernel
theorem dX7_away_0 : decode cX7_away 0 = .ok (.aload_n 0, 1) := by decide +kernel
theorem dX7_away_1 : decode cX7_away 1 = .ok (.getfield 27, 3) := by decide +kernel
theorem dX7_away_4 : decode cX7_away 4 = .ok (.iload_n 1, 1) := by decide +kernel
theorem dX7_away_5 : decode cX7_away 5 = .ok (.iaload, 1) := by decide +kernel
theorem dX7_away_6 : decode cX7_away 6 = .ok (.invokestatic 66, 3) := by decide +kernel
theorem dX7_away_9 : decode cX7_away 9 = .ok (.ireturn, 1) := by decide +kernel
theorem dX7_held_0 : decode cX7_held 0 = .ok (.ldc2_w 34, 3) := by decide +kernel
theorem dX7_held_3 : decode cX7_held 3 = .ok (.ldc2_w 36, 3) := by decide +kernel
theorem dX7_held_6 : decode cX7_held 6 = .ok (.lload_n 0, 1) := by decide +kernel
theorem dX7_held_7 : decode cX7_held 7 = .ok (.invokestatic 38, 3) := by decide +kernel
theorem dX7_held_10 : decode cX7_held 10 = .ok (.invokestatic 44, 3) := by decide +kernel
theorem dX7_held_13 : decode cX7_held 13 = .ok (.l2i, 1) := by decide +kernel
theorem dX7_held_14 : decode cX7_held 14 = .ok (.ireturn, 1) := by decide +kernel
theorem dX7_init_0 : decode cX7_init 0 = .ok (.aload_n 0, 1) := by decide +kernel
theorem dX7_init_1 : decode cX7_init 1 = .ok (.invokespecial 3, 3) := by decide +kernel
theorem dX7_init_4 : decode cX7_init 4 = .ok (.aload_n 0, 1) := by decide +kernel
theorem dX7_init_5 : decode cX7_init 5 = .ok (.aload_n 1, 1) := by decide +kernel
theorem dX7_init_6 : decode cX7_init 6 = .ok (.putfield 9, 3) := by decide +kernel
theorem dX7_init_9 : decode cX7_init 9 = .ok (.aload_n 0, 1) := by decide +kernel
theorem dX7_init_10 : decode cX7_init 10 = .ok (.aload_n 1, 1) := by decide +kernel
theorem dX7_init_11 : decode cX7_init 11 = .ok (.getfield 15, 3) := by decide +kernel
theorem dX7_init_14 : decode cX7_init 14 = .ok (.invokevirtual 21, 3) := by decide +kernel
theorem dX7_init_17 : decode cX7_init 17 = .ok (.newarray .int, 2) := by decide +kernel
theorem dX7_init_19 : decode cX7_init 19 = .ok (.putfield 27, 3) := by decide +kernel
theorem dX7_init_22 : decode cX7_init 22 = .ok (.aload_n 0, 1) := by decide +kernel
theorem dX7_init_23 : decode cX7_init 23 = .ok (.aload_n 0, 1) := by decide +kernel
theorem dX7_init_24 : decode cX7_init 24 = .ok (.getfield 27, 3) := by decide +kernel
theorem dX7_init_27 : decode cX7_init 27 = .ok (.arraylength, 1) := by decide +kernel
theorem dX7_init_28 : decode cX7_init 28 = .ok (.newarray .int, 2) := by decide +kernel
theorem dX7_init_30 : decode cX7_init 30 = .ok (.putfield 31, 3) := by decide +kernel
theorem dX7_init_33 : decode cX7_init 33 = .ok (.return_, 1) := by decide +kernel
theorem dX7_moves_0 : decode cX7_moves 0 = .ok (.ldc2_w 47, 3) := by decide +kernel
theorem dX7_moves_3 : decode cX7_moves 3 = .ok (.iload_n 1, 1) := by decide +kernel
theorem dX7_moves_4 : decode cX7_moves 4 = .ok (.aload_n 0, 1) := by decide +kernel
theorem dX7_moves_5 : decode cX7_moves 5 = .ok (.getfield 49, 3) := by decide +kernel
theorem dX7_moves_8 : decode cX7_moves 8 = .ok (.isub, 1) := by decide +kernel
theorem dX7_moves_9 : decode cX7_moves 9 = .ok (.i2l, 1) := by decide +kernel
theorem dX7_moves_10 : decode cX7_moves 10 = .ok (.lmul, 1) := by decide +kernel
theorem dX7_moves_11 : decode cX7_moves 11 = .ok (.lstore_n 2, 1) := by decide +kernel
theorem dX7_moves_12 : decode cX7_moves 12 = .ok (.aload_n 0, 1) := by decide +kernel
theorem dX7_moves_13 : decode cX7_moves 13 = .ok (.iload_n 1, 1) := by decide +kernel
theorem dX7_moves_14 : decode cX7_moves 14 = .ok (.putfield 49, 3) := by decide +kernel
theorem dX7_moves_17 : decode cX7_moves 17 = .ok (.aload_n 0, 1) := by decide +kernel
theorem dX7_moves_18 : decode cX7_moves 18 = .ok (.getfield 27, 3) := by decide +kernel
theorem dX7_moves_21 : decode cX7_moves 21 = .ok (.arraylength, 1) := by decide +kernel
theorem dX7_moves_22 : decode cX7_moves 22 = .ok (.newarray .long, 2) := by decide +kernel
theorem dX7_moves_24 : decode cX7_moves 24 = .ok (.astore 4, 2) := by decide +kernel
theorem dX7_moves_26 : decode cX7_moves 26 = .ok (.iconst 0, 1) := by decide +kernel
theorem dX7_moves_27 : decode cX7_moves 27 = .ok (.istore 5, 2) := by decide +kernel
theorem dX7_moves_29 : decode cX7_moves 29 = .ok (.iload 5, 2) := by decide +kernel
theorem dX7_moves_31 : decode cX7_moves 31 = .ok (.aload_n 0, 1) := by decide +kernel
theorem dX7_moves_32 : decode cX7_moves 32 = .ok (.getfield 27, 3) := by decide +kernel
theorem dX7_moves_35 : decode cX7_moves 35 = .ok (.arraylength, 1) := by decide +kernel
theorem dX7_moves_36 : decode cX7_moves 36 = .ok (.if_icmp .ge 134, 3) := by decide +kernel
theorem dX7_moves_39 : decode cX7_moves 39 = .ok (.iload 5, 2) := by decide +kernel
theorem dX7_moves_41 : decode cX7_moves 41 = .ok (.ifCond .ne 8, 3) := by decide +kernel
theorem dX7_moves_44 : decode cX7_moves 44 = .ok (.iload_n 1, 1) := by decide +kernel
theorem dX7_moves_45 : decode cX7_moves 45 = .ok (.i2l, 1) := by decide +kernel
theorem dX7_moves_46 : decode cX7_moves 46 = .ok (.goto 13, 3) := by decide +kernel
theorem dX7_moves_59 : decode cX7_moves 59 = .ok (.lstore 6, 2) := by decide +kernel
theorem dX7_moves_61 : decode cX7_moves 61 = .ok (.iload 5, 2) := by decide +kernel
theorem dX7_moves_63 : decode cX7_moves 63 = .ok (.ifCond .ne 7, 3) := by decide +kernel
theorem dX7_moves_66 : decode cX7_moves 66 = .ok (.lload_n 2, 1) := by decide +kernel
theorem dX7_moves_67 : decode cX7_moves 67 = .ok (.goto 13, 3) := by decide +kernel
theorem dX7_moves_80 : decode cX7_moves 80 = .ok (.lstore 8, 2) := by decide +kernel
theorem dX7_moves_82 : decode cX7_moves 82 = .ok (.aload_n 0, 1) := by decide +kernel
theorem dX7_moves_83 : decode cX7_moves 83 = .ok (.getfield 9, 3) := by decide +kernel
theorem dX7_moves_86 : decode cX7_moves 86 = .ok (.iload 5, 2) := by decide +kernel
theorem dX7_moves_88 : decode cX7_moves 88 = .ok (.invokevirtual 53, 3) := by decide +kernel
theorem dX7_moves_91 : decode cX7_moves 91 = .ok (.i2l, 1) := by decide +kernel
theorem dX7_moves_92 : decode cX7_moves 92 = .ok (.lload 6, 2) := by decide +kernel
theorem dX7_moves_94 : decode cX7_moves 94 = .ok (.aload_n 0, 1) := by decide +kernel
theorem dX7_moves_95 : decode cX7_moves 95 = .ok (.getfield 27, 3) := by decide +kernel
theorem dX7_moves_98 : decode cX7_moves 98 = .ok (.iload 5, 2) := by decide +kernel
theorem dX7_moves_100 : decode cX7_moves 100 = .ok (.iaload, 1) := by decide +kernel
theorem dX7_moves_101 : decode cX7_moves 101 = .ok (.i2l, 1) := by decide +kernel
theorem dX7_moves_102 : decode cX7_moves 102 = .ok (.lsub, 1) := by decide +kernel
theorem dX7_moves_103 : decode cX7_moves 103 = .ok (.lmul, 1) := by decide +kernel
theorem dX7_moves_104 : decode cX7_moves 104 = .ok (.aload_n 0, 1) := by decide +kernel
theorem dX7_moves_105 : decode cX7_moves 105 = .ok (.getfield 9, 3) := by decide +kernel
theorem dX7_moves_108 : decode cX7_moves 108 = .ok (.getfield 15, 3) := by decide +kernel
theorem dX7_moves_111 : decode cX7_moves 111 = .ok (.iload 5, 2) := by decide +kernel
theorem dX7_moves_113 : decode cX7_moves 113 = .ok (.invokevirtual 57, 3) := by decide +kernel
theorem dX7_moves_116 : decode cX7_moves 116 = .ok (.checkcast 61, 3) := by decide +kernel
theorem dX7_moves_119 : decode cX7_moves 119 = .ok (.iconst 2, 1) := by decide +kernel
theorem dX7_moves_120 : decode cX7_moves 120 = .ok (.iaload, 1) := by decide +kernel
theorem dX7_moves_121 : decode cX7_moves 121 = .ok (.i2l, 1) := by decide +kernel
theorem dX7_moves_122 : decode cX7_moves 122 = .ok (.lload 8, 2) := by decide +kernel
theorem dX7_moves_124 : decode cX7_moves 124 = .ok (.aload_n 0, 1) := by decide +kernel
theorem dX7_moves_125 : decode cX7_moves 125 = .ok (.getfield 31, 3) := by decide +kernel
theorem dX7_moves_128 : decode cX7_moves 128 = .ok (.iload 5, 2) := by decide +kernel
theorem dX7_moves_130 : decode cX7_moves 130 = .ok (.iaload, 1) := by decide +kernel
theorem dX7_moves_131 : decode cX7_moves 131 = .ok (.i2l, 1) := by decide +kernel
theorem dX7_moves_132 : decode cX7_moves 132 = .ok (.lsub, 1) := by decide +kernel
theorem dX7_moves_133 : decode cX7_moves 133 = .ok (.lmul, 1) := by decide +kernel
theorem dX7_moves_134 : decode cX7_moves 134 = .ok (.ladd, 1) := by decide +kernel
theorem dX7_moves_135 : decode cX7_moves 135 = .ok (.lstore 10, 2) := by decide +kernel
theorem dX7_moves_137 : decode cX7_moves 137 = .ok (.aload 4, 2) := by decide +kernel
theorem dX7_moves_139 : decode cX7_moves 139 = .ok (.iload 5, 2) := by decide +kernel
theorem dX7_moves_141 : decode cX7_moves 141 = .ok (.dup2, 1) := by decide +kernel
theorem dX7_moves_142 : decode cX7_moves 142 = .ok (.laload, 1) := by decide +kernel
theorem dX7_moves_143 : decode cX7_moves 143 = .ok (.lload 10, 2) := by decide +kernel
theorem dX7_moves_145 : decode cX7_moves 145 = .ok (.ladd, 1) := by decide +kernel
theorem dX7_moves_146 : decode cX7_moves 146 = .ok (.lastore, 1) := by decide +kernel
theorem dX7_moves_147 : decode cX7_moves 147 = .ok (.iload 5, 2) := by decide +kernel
theorem dX7_moves_149 : decode cX7_moves 149 = .ok (.ifCond .le 15, 3) := by decide +kernel
theorem dX7_moves_164 : decode cX7_moves 164 = .ok (.iinc 5 1, 3) := by decide +kernel
theorem dX7_moves_167 : decode cX7_moves 167 = .ok (.goto (-138), 3) := by decide +kernel
theorem dX7_moves_170 : decode cX7_moves 170 = .ok (.iconst 0, 1) := by decide +kernel
theorem dX7_moves_171 : decode cX7_moves 171 = .ok (.istore 5, 2) := by decide +kernel
theorem dX7_moves_173 : decode cX7_moves 173 = .ok (.iload 5, 2) := by decide +kernel
theorem dX7_moves_175 : decode cX7_moves 175 = .ok (.aload_n 0, 1) := by decide +kernel
theorem dX7_moves_176 : decode cX7_moves 176 = .ok (.getfield 27, 3) := by decide +kernel
theorem dX7_moves_179 : decode cX7_moves 179 = .ok (.arraylength, 1) := by decide +kernel
theorem dX7_moves_180 : decode cX7_moves 180 = .ok (.if_icmp .ge 86, 3) := by decide +kernel
theorem dX7_moves_183 : decode cX7_moves 183 = .ok (.aload_n 0, 1) := by decide +kernel
theorem dX7_moves_184 : decode cX7_moves 184 = .ok (.getfield 31, 3) := by decide +kernel
theorem dX7_moves_187 : decode cX7_moves 187 = .ok (.iload 5, 2) := by decide +kernel
theorem dX7_moves_189 : decode cX7_moves 189 = .ok (.aload_n 0, 1) := by decide +kernel
theorem dX7_moves_190 : decode cX7_moves 190 = .ok (.getfield 31, 3) := by decide +kernel
theorem dX7_moves_193 : decode cX7_moves 193 = .ok (.iload 5, 2) := by decide +kernel
theorem dX7_moves_195 : decode cX7_moves 195 = .ok (.iaload, 1) := by decide +kernel
theorem dX7_moves_196 : decode cX7_moves 196 = .ok (.i2l, 1) := by decide +kernel
theorem dX7_moves_197 : decode cX7_moves 197 = .ok (.aload 4, 2) := by decide +kernel
theorem dX7_moves_199 : decode cX7_moves 199 = .ok (.iload 5, 2) := by decide +kernel
theorem dX7_moves_201 : decode cX7_moves 201 = .ok (.laload, 1) := by decide +kernel
theorem dX7_moves_202 : decode cX7_moves 202 = .ok (.ldc2_w 47, 3) := by decide +kernel
theorem dX7_moves_205 : decode cX7_moves 205 = .ok (.aload_n 0, 1) := by decide +kernel
theorem dX7_moves_206 : decode cX7_moves 206 = .ok (.getfield 9, 3) := by decide +kernel
theorem dX7_moves_209 : decode cX7_moves 209 = .ok (.getfield 15, 3) := by decide +kernel
theorem dX7_moves_212 : decode cX7_moves 212 = .ok (.iload 5, 2) := by decide +kernel
theorem dX7_moves_214 : decode cX7_moves 214 = .ok (.invokevirtual 57, 3) := by decide +kernel
theorem dX7_moves_217 : decode cX7_moves 217 = .ok (.checkcast 61, 3) := by decide +kernel
theorem dX7_moves_220 : decode cX7_moves 220 = .ok (.iconst 0, 1) := by decide +kernel
theorem dX7_moves_221 : decode cX7_moves 221 = .ok (.iaload, 1) := by decide +kernel
theorem dX7_moves_222 : decode cX7_moves 222 = .ok (.i2l, 1) := by decide +kernel
theorem dX7_moves_223 : decode cX7_moves 223 = .ok (.lmul, 1) := by decide +kernel
theorem dX7_moves_224 : decode cX7_moves 224 = .ok (.ldiv, 1) := by decide +kernel
theorem dX7_moves_225 : decode cX7_moves 225 = .ok (.ladd, 1) := by decide +kernel
theorem dX7_moves_226 : decode cX7_moves 226 = .ok (.invokestatic 62, 3) := by decide +kernel
theorem dX7_moves_229 : decode cX7_moves 229 = .ok (.iastore, 1) := by decide +kernel
theorem dX7_moves_230 : decode cX7_moves 230 = .ok (.aload_n 0, 1) := by decide +kernel
theorem dX7_moves_231 : decode cX7_moves 231 = .ok (.getfield 27, 3) := by decide +kernel
theorem dX7_moves_234 : decode cX7_moves 234 = .ok (.iload 5, 2) := by decide +kernel
theorem dX7_moves_236 : decode cX7_moves 236 = .ok (.aload_n 0, 1) := by decide +kernel
theorem dX7_moves_237 : decode cX7_moves 237 = .ok (.getfield 27, 3) := by decide +kernel
theorem dX7_moves_240 : decode cX7_moves 240 = .ok (.iload 5, 2) := by decide +kernel
theorem dX7_moves_242 : decode cX7_moves 242 = .ok (.iaload, 1) := by decide +kernel
theorem dX7_moves_243 : decode cX7_moves 243 = .ok (.i2l, 1) := by decide +kernel
theorem dX7_moves_244 : decode cX7_moves 244 = .ok (.aload_n 0, 1) := by decide +kernel
theorem dX7_moves_245 : decode cX7_moves 245 = .ok (.getfield 31, 3) := by decide +kernel
theorem dX7_moves_248 : decode cX7_moves 248 = .ok (.iload 5, 2) := by decide +kernel
theorem dX7_moves_250 : decode cX7_moves 250 = .ok (.iaload, 1) := by decide +kernel
theorem dX7_moves_251 : decode cX7_moves 251 = .ok (.bipush 16, 2) := by decide +kernel
theorem dX7_moves_253 : decode cX7_moves 253 = .ok (.idiv, 1) := by decide +kernel
theorem dX7_moves_254 : decode cX7_moves 254 = .ok (.i2l, 1) := by decide +kernel
theorem dX7_moves_255 : decode cX7_moves 255 = .ok (.ladd, 1) := by decide +kernel
theorem dX7_moves_256 : decode cX7_moves 256 = .ok (.invokestatic 62, 3) := by decide +kernel
theorem dX7_moves_259 : decode cX7_moves 259 = .ok (.iastore, 1) := by decide +kernel
theorem dX7_moves_260 : decode cX7_moves 260 = .ok (.iinc 5 1, 3) := by decide +kernel
theorem dX7_moves_263 : decode cX7_moves 263 = .ok (.goto (-90), 3) := by decide +kernel
theorem dX7_moves_266 : decode cX7_moves 266 = .ok (.return_, 1) := by decide +kernel
theorem dX9_last_0 : decode cX9_last 0 = .ok (.aload_n 0, 1) := by decide +kernel
theorem dX9_last_1 : decode cX9_last 1 = .ok (.getfield 12, 3) := by decide +kernel
theorem dX9_last_4 : decode cX9_last 4 = .ok (.invokevirtual 35, 3) := by decide +kernel
theorem dX9_last_7 : decode cX9_last 7 = .ok (.iconst 1, 1) := by decide +kernel
theorem dX9_last_8 : decode cX9_last 8 = .ok (.isub, 1) := by decide +kernel
theorem dX9_last_9 : decode cX9_last 9 = .ok (.ireturn, 1) := by decide +kernel
theorem dX9_spring_0 : decode cX9_spring 0 = .ok (.aload_n 0, 1) := by decide +kernel
theorem dX9_spring_1 : decode cX9_spring 1 = .ok (.getfield 12, 3) := by decide +kernel
theorem dX9_spring_4 : decode cX9_spring 4 = .ok (.iload_n 1, 1) := by decide +kernel
theorem dX9_spring_5 : decode cX9_spring 5 = .ok (.invokevirtual 30, 3) := by decide +kernel
theorem dX9_spring_8 : decode cX9_spring 8 = .ok (.checkcast 34, 3) := by decide +kernel
theorem dX9_spring_11 : decode cX9_spring 11 = .ok (.astore_n 2, 1) := by decide +kernel
theorem dX9_spring_12 : decode cX9_spring 12 = .ok (.aload_n 2, 1) := by decide +kernel
theorem dX9_spring_13 : decode cX9_spring 13 = .ok (.iconst 1, 1) := by decide +kernel
theorem dX9_spring_14 : decode cX9_spring 14 = .ok (.iaload, 1) := by decide +kernel
theorem dX9_spring_15 : decode cX9_spring 15 = .ok (.bipush 10, 2) := by decide +kernel
theorem dX9_spring_17 : decode cX9_spring 17 = .ok (.aload_n 2, 1) := by decide +kernel
theorem dX9_spring_18 : decode cX9_spring 18 = .ok (.iconst 3, 1) := by decide +kernel
theorem dX9_spring_19 : decode cX9_spring 19 = .ok (.iaload, 1) := by decide +kernel
theorem dX9_spring_20 : decode cX9_spring 20 = .ok (.isub, 1) := by decide +kernel
theorem dX9_spring_21 : decode cX9_spring 21 = .ok (.imul, 1) := by decide +kernel
theorem dX9_spring_22 : decode cX9_spring 22 = .ok (.bipush 10, 2) := by decide +kernel
theorem dX9_spring_24 : decode cX9_spring 24 = .ok (.idiv, 1) := by decide +kernel
theorem dX9_spring_25 : decode cX9_spring 25 = .ok (.ireturn, 1) := by decide +kernel
theorem q8 : Cond.selects RX0 yX0_pullAll yX0_pullAll ∈ pw_all := pw_in 8 (by decide +kernel) (by decide +kernel)
theorem q22 : Cond.selects RX10 yX10_response yX10_response ∈ pw_all := pw_in 22 (by decide +kernel) (by decide +kernel)
theorem q23 : Cond.selects RX10 yX10_isBare yX10_isBare ∈ pw_all := pw_in 23 (by decide +kernel) (by decide +kernel)
theorem q24 : Cond.selects RX10 yX10_resonance yX10_resonance ∈ pw_all := pw_in 24 (by decide +kernel) (by decide +kernel)
theorem q25 : Cond.selects RX10 yX10_lastResponse yX10_lastResponse ∈ pw_all := pw_in 25 (by decide +kernel) (by decide +kernel)
theorem q61 : Cond.initialized RJ15 ∈ pw_all := pw_in 61 (by decide +kernel) (by decide +kernel)
theorem q62 : Cond.initialized RJ3 ∈ pw_all := pw_in 62 (by decide +kernel) (by decide +kernel)
theorem q64 : Cond.initialized RX7 ∈ pw_all := pw_in 64 (by decide +kernel) (by decide +kernel)
theorem q165 : Cond.fieldLink RX0 40 RX0 "masses" "I" ∈ pw_all := pw_in 165 (by decide +kernel) (by decide +kernel)
theorem q166 : Cond.fieldLink RX6 72 RX0 "masses" "I" ∈ pw_all := pw_in 166 (by decide +kernel) (by decide +kernel)
theorem q168 : Cond.fieldLink RX0 48 RX0 "table" "J" ∈ pw_all := pw_in 168 (by decide +kernel) (by decide +kernel)
theorem q254 : Cond.static yJ9_abs_0f7a4 ∈ pw_all := pw_in 254 (by decide +kernel) (by decide +kernel)
theorem q255 : Cond.code yJ9_abs_0f7a4 cJ9_abs_0f7a4 1 (some .int) ∈ pw_all := pw_in 255 (by decide +kernel) (by decide +kernel)
theorem q277 : Cond.methodLink RX6 378 yJx4a65c_get_915e3 ∈ pw_all := pw_in 277 (by decide +kernel) (by decide +kernel)
theorem q278 : Cond.instanceMethod yJx4a65c_get_915e3 ∈ pw_all := pw_in 278 (by decide +kernel) (by decide +kernel)
theorem q279 : Cond.selects RJx4a65c yJx4a65c_get_915e3 yJx4a65c_get_915e3 ∈ pw_all := pw_in 279 (by decide +kernel) (by decide +kernel)
theorem q280 : Cond.code yJx4a65c_get_915e3 cJx4a65c_get_915e3 2 (some (.object "java/lang/Object")) ∈ pw_all := pw_in 280 (by decide +kernel) (by decide +kernel)
theorem q281 : Cond.methodLink RJx4a65c 118 yJ15_checkIndex_7cf53 ∈ pw_all := pw_in 281 (by decide +kernel) (by decide +kernel)
theorem q282 : Cond.static yJ15_checkIndex_7cf53 ∈ pw_all := pw_in 282 (by decide +kernel) (by decide +kernel)
theorem q283 : Cond.code yJ15_checkIndex_7cf53 cJ15_checkIndex_7cf53 2 (some .int) ∈ pw_all := pw_in 283 (by decide +kernel) (by decide +kernel)
theorem q284 : Cond.methodLink RJ15 105 yJ3_checkIndex_8e157 ∈ pw_all := pw_in 284 (by decide +kernel) (by decide +kernel)
theorem q285 : Cond.static yJ3_checkIndex_8e157 ∈ pw_all := pw_in 285 (by decide +kernel) (by decide +kernel)
theorem q286 : Cond.code yJ3_checkIndex_8e157 cJ3_checkIndex_8e157 3 (some .int) ∈ pw_all := pw_in 286 (by decide +kernel) (by decide +kernel)
theorem q287 : Cond.methodLink RJx4a65c 123 yJx4a65c_elementData_915e3 ∈ pw_all := pw_in 287 (by decide +kernel) (by decide +kernel)
theorem q288 : Cond.instanceMethod yJx4a65c_elementData_915e3 ∈ pw_all := pw_in 288 (by decide +kernel) (by decide +kernel)
theorem q289 : Cond.selects RJx4a65c yJx4a65c_elementData_915e3 yJx4a65c_elementData_915e3 ∈ pw_all := pw_in 289 (by decide +kernel) (by decide +kernel)
theorem q290 : Cond.code yJx4a65c_elementData_915e3 cJx4a65c_elementData_915e3 2 (some (.object "java/lang/Object")) ∈ pw_all := pw_in 290 (by decide +kernel) (by decide +kernel)
theorem q402 : Cond.fieldLink RX6 65 RX5 "chain" "LShakerhall$Chain;" ∈ pw_all := pw_in 402 (by decide +kernel) (by decide +kernel)
theorem q548 : Cond.methodLink RX6 78 yX0_hang ∈ pw_all := pw_in 548 (by decide +kernel) (by decide +kernel)
theorem q549 : Cond.instanceMethod yX0_hang ∈ pw_all := pw_in 549 (by decide +kernel) (by decide +kernel)
theorem q550 : Cond.selects RX0 yX0_hang yX0_hang ∈ pw_all := pw_in 550 (by decide +kernel) (by decide +kernel)
theorem q551 : Cond.code yX0_hang cX0_hang 4 none ∈ pw_all := pw_in 551 (by decide +kernel) (by decide +kernel)
theorem q586 : Cond.instanceMethod yX0_playTone ∈ pw_all := pw_in 586 (by decide +kernel) (by decide +kernel)
theorem q587 : Cond.selects RX0 yX0_playTone yX0_playTone ∈ pw_all := pw_in 587 (by decide +kernel) (by decide +kernel)
theorem q588 : Cond.code yX0_playTone cX0_playTone 2 none ∈ pw_all := pw_in 588 (by decide +kernel) (by decide +kernel)
theorem q589 : Cond.methodLink RX0 79 yX0_rest ∈ pw_all := pw_in 589 (by decide +kernel) (by decide +kernel)
theorem q590 : Cond.instanceMethod yX0_rest ∈ pw_all := pw_in 590 (by decide +kernel) (by decide +kernel)
theorem q591 : Cond.selects RX0 yX0_rest yX0_rest ∈ pw_all := pw_in 591 (by decide +kernel) (by decide +kernel)
theorem q592 : Cond.code yX0_rest cX0_rest 2 none ∈ pw_all := pw_in 592 (by decide +kernel) (by decide +kernel)
theorem q593 : Cond.methodLink RX0 82 yX0_goOn ∈ pw_all := pw_in 593 (by decide +kernel) (by decide +kernel)
theorem q594 : Cond.instanceMethod yX0_goOn ∈ pw_all := pw_in 594 (by decide +kernel) (by decide +kernel)
theorem q595 : Cond.selects RX0 yX0_goOn yX0_goOn ∈ pw_all := pw_in 595 (by decide +kernel) (by decide +kernel)
theorem q596 : Cond.code yX0_goOn cX0_goOn 4 none ∈ pw_all := pw_in 596 (by decide +kernel) (by decide +kernel)
theorem q597 : Cond.methodLink RX0 75 yX0_stepTo ∈ pw_all := pw_in 597 (by decide +kernel) (by decide +kernel)
theorem q598 : Cond.instanceMethod yX0_stepTo ∈ pw_all := pw_in 598 (by decide +kernel) (by decide +kernel)
theorem q599 : Cond.selects RX0 yX0_stepTo yX0_stepTo ∈ pw_all := pw_in 599 (by decide +kernel) (by decide +kernel)
theorem q600 : Cond.code yX0_stepTo cX0_stepTo 7 none ∈ pw_all := pw_in 600 (by decide +kernel) (by decide +kernel)
theorem q601 : Cond.constantLong RX0 52 (16) ∈ pw_all := pw_in 601 (by decide +kernel) (by decide +kernel)
theorem q602 : Cond.methodLink RX0 54 yX0_pullAll ∈ pw_all := pw_in 602 (by decide +kernel) (by decide +kernel)
theorem q604 : Cond.instanceMethod yX0_pullAll ∈ pw_all := pw_in 604 (by decide +kernel) (by decide +kernel)
theorem q605 : Cond.code yX0_pullAll cX0_pullAll 10 none ∈ pw_all := pw_in 605 (by decide +kernel) (by decide +kernel)
theorem q606 : Cond.methodLink RX0 58 yX0_within ∈ pw_all := pw_in 606 (by decide +kernel) (by decide +kernel)
theorem q607 : Cond.static yX0_within ∈ pw_all := pw_in 607 (by decide +kernel) (by decide +kernel)
theorem q608 : Cond.code yX0_within cX0_within 2 (some .long) ∈ pw_all := pw_in 608 (by decide +kernel) (by decide +kernel)
theorem q609 : Cond.constantLong RX0 71 (1000000) ∈ pw_all := pw_in 609 (by decide +kernel) (by decide +kernel)
theorem q610 : Cond.constantLong RX0 73 (-1000000) ∈ pw_all := pw_in 610 (by decide +kernel) (by decide +kernel)
theorem q611 : Cond.methodLink RX0 62 yJ9_abs_067f4 ∈ pw_all := pw_in 611 (by decide +kernel) (by decide +kernel)
theorem q612 : Cond.static yJ9_abs_067f4 ∈ pw_all := pw_in 612 (by decide +kernel) (by decide +kernel)
theorem q613 : Cond.code yJ9_abs_067f4 cJ9_abs_067f4 2 (some .long) ∈ pw_all := pw_in 613 (by decide +kernel) (by decide +kernel)
theorem q614 : Cond.methodLink RX0 67 yJ9_max_7cf53 ∈ pw_all := pw_in 614 (by decide +kernel) (by decide +kernel)
theorem q623 : Cond.methodLink RX6 106 yX6_checkHasMasses ∈ pw_all := pw_in 623 (by decide +kernel) (by decide +kernel)
theorem q624 : Cond.static yX6_checkHasMasses ∈ pw_all := pw_in 624 (by decide +kernel) (by decide +kernel)
theorem q625 : Cond.code yX6_checkHasMasses cX6_checkHasMasses 1 none ∈ pw_all := pw_in 625 (by decide +kernel) (by decide +kernel)
theorem q642 : Cond.methodLink RX6 110 yX0_findResonance ∈ pw_all := pw_in 642 (by decide +kernel) (by decide +kernel)
theorem q643 : Cond.instanceMethod yX0_findResonance ∈ pw_all := pw_in 643 (by decide +kernel) (by decide +kernel)
theorem q644 : Cond.selects RX0 yX0_findResonance yX0_findResonance ∈ pw_all := pw_in 644 (by decide +kernel) (by decide +kernel)
theorem q645 : Cond.code yX0_findResonance cX0_findResonance 4 (some .int) ∈ pw_all := pw_in 645 (by decide +kernel) (by decide +kernel)
theorem q646 : Cond.methodLink RX0 86 yX0_playTone ∈ pw_all := pw_in 646 (by decide +kernel) (by decide +kernel)
theorem q647 : Cond.methodLink RX0 89 yX0_lastPeak ∈ pw_all := pw_in 647 (by decide +kernel) (by decide +kernel)
theorem q648 : Cond.instanceMethod yX0_lastPeak ∈ pw_all := pw_in 648 (by decide +kernel) (by decide +kernel)
theorem q649 : Cond.selects RX0 yX0_lastPeak yX0_lastPeak ∈ pw_all := pw_in 649 (by decide +kernel) (by decide +kernel)
theorem q650 : Cond.code yX0_lastPeak cX0_lastPeak 1 (some .int) ∈ pw_all := pw_in 650 (by decide +kernel) (by decide +kernel)
theorem q961 : Cond.static yJ9_min_f86c9 ∈ pw_all := pw_in 961 (by decide +kernel) (by decide +kernel)
theorem q962 : Cond.code yJ9_min_f86c9 cJ9_min_f86c9 4 (some .long) ∈ pw_all := pw_in 962 (by decide +kernel) (by decide +kernel)
theorem q964 : Cond.static yJ9_max_f86c9 ∈ pw_all := pw_in 964 (by decide +kernel) (by decide +kernel)
theorem q965 : Cond.code yJ9_max_f86c9 cJ9_max_f86c9 4 (some .long) ∈ pw_all := pw_in 965 (by decide +kernel) (by decide +kernel)
theorem q1302 : Cond.methodLink RX10 44 yJx4a65c_get_915e3 ∈ pw_all := pw_in 1302 (by decide +kernel) (by decide +kernel)
theorem q1311 : Cond.methodLink RX10 50 yX9_last ∈ pw_all := pw_in 1311 (by decide +kernel) (by decide +kernel)
theorem q1312 : Cond.instanceMethod yX9_last ∈ pw_all := pw_in 1312 (by decide +kernel) (by decide +kernel)
theorem q1313 : Cond.selects RX9 yX9_last yX9_last ∈ pw_all := pw_in 1313 (by decide +kernel) (by decide +kernel)
theorem q1314 : Cond.code yX9_last cX9_last 1 (some .int) ∈ pw_all := pw_in 1314 (by decide +kernel) (by decide +kernel)
theorem q1315 : Cond.methodLink RX9 35 yJx4a65c_size_8abf5 ∈ pw_all := pw_in 1315 (by decide +kernel) (by decide +kernel)
theorem q1322 : Cond.instanceMethod yX9_spring ∈ pw_all := pw_in 1322 (by decide +kernel) (by decide +kernel)
theorem q1323 : Cond.selects RX9 yX9_spring yX9_spring ∈ pw_all := pw_in 1323 (by decide +kernel) (by decide +kernel)
theorem q1324 : Cond.code yX9_spring cX9_spring 3 (some .int) ∈ pw_all := pw_in 1324 (by decide +kernel) (by decide +kernel)
theorem q1325 : Cond.methodLink RX9 30 yJx4a65c_get_915e3 ∈ pw_all := pw_in 1325 (by decide +kernel) (by decide +kernel)
theorem q1326 : Cond.classLink RX9 34 "[I" ∈ pw_all := pw_in 1326 (by decide +kernel) (by decide +kernel)
theorem q1331 : Cond.methodLink RX10 100 yX10_response ∈ pw_all := pw_in 1331 (by decide +kernel) (by decide +kernel)
theorem q1333 : Cond.instanceMethod yX10_response ∈ pw_all := pw_in 1333 (by decide +kernel) (by decide +kernel)
theorem q1334 : Cond.code yX10_response cX10_response 7 (some .int) ∈ pw_all := pw_in 1334 (by decide +kernel) (by decide +kernel)
theorem q1335 : Cond.classLink RX10 79 RX7 ∈ pw_all := pw_in 1335 (by decide +kernel) (by decide +kernel)
theorem q1336 : Cond.instantiable RX7 4 ∈ pw_all := pw_in 1336 (by decide +kernel) (by decide +kernel)
theorem q1337 : Cond.methodLink RX10 81 yX7_init ∈ pw_all := pw_in 1337 (by decide +kernel) (by decide +kernel)
theorem q1338 : Cond.instanceMethod yX7_init ∈ pw_all := pw_in 1338 (by decide +kernel) (by decide +kernel)
theorem q1339 : Cond.code yX7_init cX7_init 2 none ∈ pw_all := pw_in 1339 (by decide +kernel) (by decide +kernel)
theorem q1340 : Cond.methodLink RX7 3 objectInit ∈ pw_all := pw_in 1340 (by decide +kernel) (by decide +kernel)
theorem q1341 : Cond.methodLink RX7 21 yJx4a65c_size_8abf5 ∈ pw_all := pw_in 1341 (by decide +kernel) (by decide +kernel)
theorem q1342 : Cond.fieldLink RX7 9 RX7 "structure" "LShakerhallModel$Structure;" ∈ pw_all := pw_in 1342 (by decide +kernel) (by decide +kernel)
theorem q1343 : Cond.fieldLink RX7 27 RX7 "places" "[I" ∈ pw_all := pw_in 1343 (by decide +kernel) (by decide +kernel)
theorem q1345 : Cond.fieldLink RX7 31 RX7 "speeds" "[I" ∈ pw_all := pw_in 1345 (by decide +kernel) (by decide +kernel)
theorem q1346 : Cond.fieldLink RX7 49 RX7 "table" "I" ∈ pw_all := pw_in 1346 (by decide +kernel) (by decide +kernel)
theorem q1357 : Cond.methodLink RX10 84 yX10_tone ∈ pw_all := pw_in 1357 (by decide +kernel) (by decide +kernel)
theorem q1358 : Cond.static yX10_tone ∈ pw_all := pw_in 1358 (by decide +kernel) (by decide +kernel)
theorem q1359 : Cond.code yX10_tone cX10_tone 2 (some .int) ∈ pw_all := pw_in 1359 (by decide +kernel) (by decide +kernel)
theorem q1360 : Cond.methodLink RX10 88 yX7_moves ∈ pw_all := pw_in 1360 (by decide +kernel) (by decide +kernel)
theorem q1361 : Cond.instanceMethod yX7_moves ∈ pw_all := pw_in 1361 (by decide +kernel) (by decide +kernel)
theorem q1362 : Cond.selects RX7 yX7_moves yX7_moves ∈ pw_all := pw_in 1362 (by decide +kernel) (by decide +kernel)
theorem q1363 : Cond.code yX7_moves cX7_moves 12 none ∈ pw_all := pw_in 1363 (by decide +kernel) (by decide +kernel)
theorem q1364 : Cond.constantLong RX7 47 (16) ∈ pw_all := pw_in 1364 (by decide +kernel) (by decide +kernel)
theorem q1365 : Cond.methodLink RX7 53 yX9_spring ∈ pw_all := pw_in 1365 (by decide +kernel) (by decide +kernel)
theorem q1366 : Cond.methodLink RX7 57 yJx4a65c_get_915e3 ∈ pw_all := pw_in 1366 (by decide +kernel) (by decide +kernel)
theorem q1367 : Cond.classLink RX7 61 "[I" ∈ pw_all := pw_in 1367 (by decide +kernel) (by decide +kernel)
theorem q1368 : Cond.methodLink RX7 62 yX7_held ∈ pw_all := pw_in 1368 (by decide +kernel) (by decide +kernel)
theorem q1369 : Cond.static yX7_held ∈ pw_all := pw_in 1369 (by decide +kernel) (by decide +kernel)
theorem q1370 : Cond.code yX7_held cX7_held 2 (some .int) ∈ pw_all := pw_in 1370 (by decide +kernel) (by decide +kernel)
theorem q1371 : Cond.constantLong RX7 34 (-1000000) ∈ pw_all := pw_in 1371 (by decide +kernel) (by decide +kernel)
theorem q1372 : Cond.constantLong RX7 36 (1000000) ∈ pw_all := pw_in 1372 (by decide +kernel) (by decide +kernel)
theorem q1373 : Cond.methodLink RX7 38 yJ9_min_f86c9 ∈ pw_all := pw_in 1373 (by decide +kernel) (by decide +kernel)
theorem q1374 : Cond.methodLink RX7 44 yJ9_max_f86c9 ∈ pw_all := pw_in 1374 (by decide +kernel) (by decide +kernel)
theorem q1375 : Cond.methodLink RX10 92 yX7_away ∈ pw_all := pw_in 1375 (by decide +kernel) (by decide +kernel)
theorem q1376 : Cond.instanceMethod yX7_away ∈ pw_all := pw_in 1376 (by decide +kernel) (by decide +kernel)
theorem q1377 : Cond.selects RX7 yX7_away yX7_away ∈ pw_all := pw_in 1377 (by decide +kernel) (by decide +kernel)
theorem q1378 : Cond.code yX7_away cX7_away 2 (some .int) ∈ pw_all := pw_in 1378 (by decide +kernel) (by decide +kernel)
theorem q1379 : Cond.methodLink RX7 66 yJ9_abs_0f7a4 ∈ pw_all := pw_in 1379 (by decide +kernel) (by decide +kernel)
theorem q1380 : Cond.methodLink RX10 95 yJ9_max_7cf53 ∈ pw_all := pw_in 1380 (by decide +kernel) (by decide +kernel)
theorem q1385 : Cond.methodLink RX10 107 yX10_isBare ∈ pw_all := pw_in 1385 (by decide +kernel) (by decide +kernel)
theorem q1387 : Cond.instanceMethod yX10_isBare ∈ pw_all := pw_in 1387 (by decide +kernel) (by decide +kernel)
theorem q1388 : Cond.code yX10_isBare cX10_isBare 2 (some .boolean) ∈ pw_all := pw_in 1388 (by decide +kernel) (by decide +kernel)
theorem q1393 : Cond.methodLink RX10 110 yX10_resonance ∈ pw_all := pw_in 1393 (by decide +kernel) (by decide +kernel)
theorem q1395 : Cond.instanceMethod yX10_resonance ∈ pw_all := pw_in 1395 (by decide +kernel) (by decide +kernel)
theorem q1396 : Cond.code yX10_resonance cX10_resonance 6 (some .int) ∈ pw_all := pw_in 1396 (by decide +kernel) (by decide +kernel)
theorem q1397 : Cond.methodLink RX10 104 yX10_lastResponse ∈ pw_all := pw_in 1397 (by decide +kernel) (by decide +kernel)
theorem q1399 : Cond.instanceMethod yX10_lastResponse ∈ pw_all := pw_in 1399 (by decide +kernel) (by decide +kernel)
theorem q1400 : Cond.code yX10_lastResponse cX10_lastResponse 3 (some .int) ∈ pw_all := pw_in 1400 (by decide +kernel) (by decide +kernel)
end
set_option maxHeartbeats 4000000 in
set_option maxRecDepth 100000 in
theorem r_add3 (l : Launch) (dC : Nat → ClassId) (dI : Nat → Nat → Nat) (sz : Nat) (ed : Nat) (a : Nat) (el : Nat) (m0 : Int32) : Met l yJx4a65c_add_72be8 (pw_ws yJx4a65c_add_72be8 cJx4a65c_add_72be8 4 none) ({ frames := 3, cells := 1, slots := 10, locals := 63 } : Room) (va_Pc [.ref a, .ref el, .ref ed, .int 0] (fun U => U.heap.size = sz ∧ va_P (dC, dI) vwCl [(a, .inr (4, [.int m0, .ref ed, .int 0]))] U.heap ∧ va_K (dC, dI) vwCl [] U ∧ va_D (fun _ => True) [(a, .inr (4, [.int m0, .ref ed, .int 0]))] ∧ pz ed (va_A [(a, .inr (4, [.int m0, .ref ed, .int 0]))] sz) U U.heap ∧ pe el (va_A [(a, .inr (4, [.int m0, .ref ed, .int 0]))] sz) U U.heap)) (va_Qv (fun (_ : Unit) => True) (fun (_ : Unit) (t : State) => ∃ (qa : Nat), ∃ (ce : ClassId), va_P (dC, dI) vwCl [(a, .inr (4, [.int m0, .ref qa, .int 1])), (qa, .inl (ce, 10, .inr (.inr (.inr (.inr (va_up (fun _ => none) 0 (some el)))))))] t.heap ∧ va_K (dC, dI) vwCl [(ce, .object "java/lang/Object")] t ∧ va_D (va_A [(a, .inr (4, [.int m0, .ref ed, .int 0]))] sz) [(a, .inr (4, [.int m0, .ref qa, .int 1])), (qa, .inl (ce, 10, .inr (.inr (.inr (.inr (va_up (fun _ => none) 0 (some el)))))))]) (va_A [(a, .inr (4, [.int m0, .ref ed, .int 0]))] sz)) 1 10 (va_A [(a, .inr (4, [.int m0, .ref ed, .int 0]))] sz) := by
  refine Met.ofW (cc := cJx4a65c_add_72be8) (maxL := 4) (ret := none) (by decide) rfl ?_
  intro p e s m args below meth c s₁ B hml hv
  obtain ⟨rfl, hsz, hP, hK, hD0, hZ, hE⟩ := hv
  have hx := B.exec
  have hb := B.bytes
  have hr := B.returns
  have hts0 := atoms_spec (ws := (pw_ws yJx4a65c_add_72be8 cJx4a65c_add_72be8 4 none)) B.pre
  have hts : ∀ w ∈ pw_all, w.before _ s = true := fun w h => hts0 w (List.mem_cons_of_mem _ h)
  have hown : s.vm.findClass RJx4a65c = some m.cls := findClass_of_methodNamed B.named
  have hlocks := B.notSynchronized
  subst hsz
  have hD := hD0.self (sz := s.heap.size)
  generalize hAe : va_A [(a, .inr (4, [.int m0, .ref ed, .int 0]))] s.heap.size = A at hD hZ hE ⊢
  have hA : ∀ q : Nat, s.heap.size ≤ q → A q := fun q h => by rw [← hAe]; exact Or.inr h
  have hS : va_S A s.heap s.heap [] := va_S.rf
  have hP : va_P (dC, dI) vwCl [(a, .inr (4, [.int m0, .ref ed, .int 0]))] s.heap := hP
  have hl := lv_entry ([.ref a, .ref el, .ref ed, .int 0]) (n := 4) (Nat.le_of_ble_eq_true rfl)
  rw [lg_entry_eq]
  generalize (lg_sl ([.ref a, .ref el, .ref ed, .int 0]) ++ List.replicate (4 - (lg_sl ([.ref a, .ref el, .ref ed, .int 0])).length) Slot.unset).toArray = ls at hl ⊢
  have hl : lv_has ls 4 [(0, .ref a), (1, .ref el), (2, .ref ed), (3, .int 0)] := hl
  skip
  refine lv_iload_n hx hb dJx4a65c_add_72be8_0 rfl (lv_at hl 3 rfl) ?_
  refine lv_aload_n hx hb dJx4a65c_add_72be8_1 rfl (lv_at hl 2 rfl) ?_
  refine pl_edlen hx hb hZ hS dJx4a65c_add_72be8_2 ?_
  refine lv_icmp_ne (tgt := 11) hx hb dJx4a65c_add_72be8_3 (by decide) (fun c_1479 => absurd (by decide) c_1479) (fun c_1479 => ?_)
  refine lv_aload_n hx hb dJx4a65c_add_72be8_6 rfl (lv_at hl 0 rfl) ?_
  have hPc := hP.sub (ws' := [(a, .inr (4, [.int m0, .ref ed, .int 0]))]) [0] rfl
  have hDc := hD.sub (ws' := [(a, .inr (4, [.int m0, .ref ed, .int 0]))]) [0] (by decide) rfl
  have hKc := hK.sub (tys' := []) [] rfl
  have hFc := va_free (wc := [(a, .inr (4, [.int m0, .ref ed, .int 0]))]) hD hS hA [0] rfl
  refine va_callr (va_runV (As := []) (rest := []) ⟨hx, hb, hml, hown, hts⟩ (m_grow l dC dI s.heap.size ed a m0) (cwV 0 hts (pw_V q439 q441 q5 q46 q442) rfl rfl rfl (by decide +kernel) ⟨(Nat.le_of_ble_eq_true rfl), (Nat.le_of_ble_eq_true rfl)⟩) ⟨fun a U g mk q => by obtain ⟨q0, q1, qP, qK, qD, qZ⟩ := q; exact ⟨q0, q1, qP, va_K.moved (u := U) (U := U.calling g mk a) (Vm.Alike.refl U.vm) qK, qD, qZ.same rfl⟩, va_recv hKc hPc (ci := 4) (q0 := 0) rfl rfl, fun U hU hW => ⟨rfl, by rw [hU], by rw [hU]; exact hPc, va_K.moved hW.alike hKc, hDc.weaken (fun _ _ _ _ => trivial), hZ.call hS hFc hU hW⟩⟩ rfl rfl hl.1 rfl (lv_room (Nat.le_of_ble_eq_true rfl)) dJx4a65c_add_72be8_7 ⟨(Nat.le_of_ble_eq_true rfl), (Nat.le_of_ble_eq_true rfl)⟩) hS (fun q _ h => hFc q h) hFc (fun u r_1480 t H1 locs ht hvm hw hB hz1 hk1 hS => ?_)
  obtain ⟨cA_1481, hP1, hK1, hD1⟩ := hB
  rw [ht] at hP1
  have hK1 := va_K.moved hvm.symm hK1
  obtain ⟨hP, hD⟩ := va_join (wr := []) (w1 := [(a, .inr (4, [.int m0, .ref r_1480, .int 0])), (r_1480, .inl (cA_1481, 10, .inr (.inr (.inr (.inr (fun _ => none))))))]) hP hD [0] [] rfl rfl (by decide) (by decide) hk1 hFc hP1 hD1
  have hK := (hK.sub (tys' := []) [] rfl).app hK1
  generalize H1 = H at hP hS ⊢
  have hP : va_P (dC, dI) vwCl [(a, .inr (4, [.int m0, .ref r_1480, .int 0])), (r_1480, .inl (cA_1481, 10, .inr (.inr (.inr (.inr (fun _ => none))))))] H := hP
  have hD : va_D A [(a, .inr (4, [.int m0, .ref r_1480, .int 0])), (r_1480, .inl (cA_1481, 10, .inr (.inr (.inr (.inr (fun _ => none))))))] := hD
  have hK : va_K (dC, dI) vwCl [(cA_1481, .object "java/lang/Object")] s := hK
  refine W.widen (k := 1) (n := 10) (Nat.le_of_ble_eq_true rfl) (Nat.le_of_ble_eq_true rfl) ?_
  refine lv_astore_n (lv' := [(2, .ref r_1480), (0, .ref a), (1, .ref el), (3, .int 0)]) hx hb dJx4a65c_add_72be8_10 rfl hl (by decide) rfl (fun ls hl => ?_)
  refine lv_aload_n hx hb dJx4a65c_add_72be8_11 rfl (lv_at hl 0 rfl) ?_
  refine lv_iload_n hx hb dJx4a65c_add_72be8_12 rfl (lv_at hl 3 rfl) ?_
  refine lv_aload_n hx hb dJx4a65c_add_72be8_13 rfl (lv_at hl 2 rfl) ?_
  refine va_astqM (E := "java/lang/Object") hx hb hK hP hD hS 1 0 rfl rfl (hE.any hS) (by unfold vp_in; decide) dJx4a65c_add_72be8_14 (fun H locs hP hD hS => ?_)
  rw [show (0 : Int32).toNatClampNeg = 0 from by decide] at hP hD
  have hP : va_P (dC, dI) vwCl [(a, .inr (4, [.int m0, .ref r_1480, .int 0])), (r_1480, .inl (cA_1481, 10, .inr (.inr (.inr (.inr (va_up (fun _ => none) 0 (some el)))))))] H := hP
  have hD : va_D A [(a, .inr (4, [.int m0, .ref r_1480, .int 0])), (r_1480, .inl (cA_1481, 10, .inr (.inr (.inr (.inr (va_up (fun _ => none) 0 (some el)))))))] := hD
  refine lv_aload_n hx hb dJx4a65c_add_72be8_15 rfl (lv_at hl 1 rfl) ?_
  refine lv_iload_n hx hb dJx4a65c_add_72be8_16 rfl (lv_at hl 3 rfl) ?_
  refine lv_iconst (v := 1) hx hb dJx4a65c_add_72be8_17 (by decide) ?_
  refine lv_iadd hx hb dJx4a65c_add_72be8_18 ?_
  refine lv_numI (v := 1) (by decide) ?_
  refine va_put (D := (dC, dI)) (ci := 4) (v := .int 1) (ty := .int) (C := RJx4a65c) (T := TJx4a65c) (N := 3) hx hb hts inJx4a65c tyJx4a65c tyJx4a65c_ok nmJx4a65c hown hK hP hD hS 0 rfl rfl 2 (by decide) (hts _ q105) (fun _ h9 => h9) rfl (by decide +kernel) rfl rfl (Nat.le_of_ble_eq_true rfl) dJx4a65c_add_72be8_19 (fun H locs hP hD hS => ?_)
  have hP : va_P (dC, dI) vwCl [(a, .inr (4, [.int m0, .ref r_1480, .int 1])), (r_1480, .inl (cA_1481, 10, .inr (.inr (.inr (.inr (va_up (fun _ => none) 0 (some el)))))))] H := hP
  have hD : va_D A [(a, .inr (4, [.int m0, .ref r_1480, .int 1])), (r_1480, .inl (cA_1481, 10, .inr (.inr (.inr (.inr (va_up (fun _ => none) 0 (some el)))))))] := hD
  have hP9 := hP.sub (ws' := [(a, .inr (4, [.int m0, .ref r_1480, .int 1])), (r_1480, .inl (cA_1481, 10, .inr (.inr (.inr (.inr (va_up (fun _ => none) 0 (some el)))))))]) [0, 1] rfl
  have hD9 := hD.sub (ws' := [(a, .inr (4, [.int m0, .ref r_1480, .int 1])), (r_1480, .inl (cA_1481, 10, .inr (.inr (.inr (.inr (va_up (fun _ => none) 0 (some el)))))))]) [0, 1] (by decide) rfl
  have hK9 := hK.sub (tys' := [(cA_1481, .object "java/lang/Object")]) [0] rfl
  refine W.widen (k := 1) (n := 10) (Nat.le_of_ble_eq_true rfl) (Nat.le_of_ble_eq_true rfl) ?_
  exact W.vret hx hb hr (fun t ht hW => ⟨⟨(), rfl, trivial, ⟨r_1480, cA_1481, by rw [ht]; exact hP9, va_K.moved hW.alike hK9, hD9⟩⟩, hS.F ht⟩) hS.2.2 dJx4a65c_add_72be8_22
set_option maxHeartbeats 4000000 in
set_option maxRecDepth 100000 in
theorem r_add (l : Launch) (dC : Nat → ClassId) (dI : Nat → Nat → Nat) (sz : Nat) (ed : Nat) (a : Nat) (el : Nat) (m0 : Int32) : Met l yJx4a65c_add_9ea2d (pw_ws yJx4a65c_add_9ea2d cJx4a65c_add_9ea2d 2 (some .boolean)) ({ frames := 4, cells := 1, slots := 10, locals := 86 } : Room) (va_Pc [.ref a, .ref el] (fun U => U.heap.size = sz ∧ va_P (dC, dI) vwCl [(a, .inr (4, [.int m0, .ref ed, .int 0]))] U.heap ∧ va_K (dC, dI) vwCl [] U ∧ va_D (fun _ => True) [(a, .inr (4, [.int m0, .ref ed, .int 0]))] ∧ pz ed (va_A [(a, .inr (4, [.int m0, .ref ed, .int 0]))] sz) U U.heap ∧ pe el (va_A [(a, .inr (4, [.int m0, .ref ed, .int 0]))] sz) U U.heap)) (va_Qi (fun (r : Int32) (_ : Unit) => r = 1) (fun (_ : Unit) (t : State) => ∃ (qa : Nat), ∃ (ce : ClassId), ∃ (m1 : Int32), va_P (dC, dI) vwCl [(a, .inr (4, [.int m1, .ref qa, .int 1])), (qa, .inl (ce, 10, .inr (.inr (.inr (.inr (va_up (fun _ => none) 0 (some el)))))))] t.heap ∧ va_K (dC, dI) vwCl [(ce, .object "java/lang/Object")] t ∧ va_D (va_A [(a, .inr (4, [.int m0, .ref ed, .int 0]))] sz) [(a, .inr (4, [.int m1, .ref qa, .int 1])), (qa, .inl (ce, 10, .inr (.inr (.inr (.inr (va_up (fun _ => none) 0 (some el)))))))]) (va_A [(a, .inr (4, [.int m0, .ref ed, .int 0]))] sz)) 1 10 (va_A [(a, .inr (4, [.int m0, .ref ed, .int 0]))] sz) := by
  refine Met.ofW (cc := cJx4a65c_add_9ea2d) (maxL := 2) (ret := (some .boolean)) (by decide) rfl ?_
  intro p e s m args below meth c s₁ B hml hv
  obtain ⟨rfl, hsz, hP, hK, hD0, hZ, hE⟩ := hv
  have hx := B.exec
  have hb := B.bytes
  have hr := B.returns
  have hts0 := atoms_spec (ws := (pw_ws yJx4a65c_add_9ea2d cJx4a65c_add_9ea2d 2 (some .boolean))) B.pre
  have hts : ∀ w ∈ pw_all, w.before _ s = true := fun w h => hts0 w (List.mem_cons_of_mem _ h)
  have hown : s.vm.findClass RJx4a65c = some m.cls := findClass_of_methodNamed B.named
  have hlocks := B.notSynchronized
  subst hsz
  have hD := hD0.self (sz := s.heap.size)
  generalize hAe : va_A [(a, .inr (4, [.int m0, .ref ed, .int 0]))] s.heap.size = A at hD hZ hE ⊢
  have hA : ∀ q : Nat, s.heap.size ≤ q → A q := fun q h => by rw [← hAe]; exact Or.inr h
  have hS : va_S A s.heap s.heap [] := va_S.rf
  have hP : va_P (dC, dI) vwCl [(a, .inr (4, [.int m0, .ref ed, .int 0]))] s.heap := hP
  have hl := lv_entry ([.ref a, .ref el]) (n := 2) (Nat.le_of_ble_eq_true rfl)
  rw [lg_entry_eq]
  generalize (lg_sl ([.ref a, .ref el]) ++ List.replicate (2 - (lg_sl ([.ref a, .ref el])).length) Slot.unset).toArray = ls at hl ⊢
  have hl : lv_has ls 2 [(0, .ref a), (1, .ref el)] := hl
  skip
  refine lv_aload_n hx hb dJx4a65c_add_9ea2d_0 rfl (lv_at hl 0 rfl) ?_
  refine lv_dup hx hb dJx4a65c_add_9ea2d_1 rfl ?_
  refine va_get (D := (dC, dI)) (ci := 4) (v := .int m0) (C := RJx4a65c) (T := TJx4a65c) (N := 3) hx hb hts inJx4a65c hown hK hP 0 rfl rfl 0 (by decide) (hts _ q109) (fun x9 h9 => u_same (hts _ q108) x9 h9) rfl dJx4a65c_add_9ea2d_2 ?_
  refine lv_iconst (v := 1) hx hb dJx4a65c_add_9ea2d_5 (by decide) ?_
  refine lv_iadd hx hb dJx4a65c_add_9ea2d_6 ?_
  refine lv_topi (fun x_1482 ex_1482 => ?_)
  refine va_put (D := (dC, dI)) (ci := 4) (v := .int x_1482) (ty := .int) (C := RJx4a65c) (T := TJx4a65c) (N := 3) hx hb hts inJx4a65c tyJx4a65c tyJx4a65c_ok nmJx4a65c hown hK hP hD hS 0 rfl rfl 0 (by decide) (hts _ q109) (fun x9 h9 => u_same (hts _ q108) x9 h9) rfl (by decide +kernel) rfl rfl (Nat.le_of_ble_eq_true rfl) dJx4a65c_add_9ea2d_7 (fun H locs hP hD hS => ?_)
  have hP : va_P (dC, dI) vwCl [(a, .inr (4, [.int x_1482, .ref ed, .int 0]))] H := hP
  have hD : va_D A [(a, .inr (4, [.int x_1482, .ref ed, .int 0]))] := hD
  refine lv_aload_n hx hb dJx4a65c_add_9ea2d_10 rfl (lv_at hl 0 rfl) ?_
  refine lv_aload_n hx hb dJx4a65c_add_9ea2d_11 rfl (lv_at hl 1 rfl) ?_
  refine lv_aload_n hx hb dJx4a65c_add_9ea2d_12 rfl (lv_at hl 0 rfl) ?_
  refine va_get (D := (dC, dI)) (ci := 4) (v := .ref ed) (C := RJx4a65c) (T := TJx4a65c) (N := 3) hx hb hts inJx4a65c hown hK hP 0 rfl rfl 1 (by decide) (hts _ q102) (fun _ h9 => h9) rfl dJx4a65c_add_9ea2d_13 ?_
  refine lv_aload_n hx hb dJx4a65c_add_9ea2d_16 rfl (lv_at hl 0 rfl) ?_
  refine va_get (D := (dC, dI)) (ci := 4) (v := .int 0) (C := RJx4a65c) (T := TJx4a65c) (N := 3) hx hb hts inJx4a65c hown hK hP 0 rfl rfl 2 (by decide) (hts _ q105) (fun _ h9 => h9) rfl dJx4a65c_add_9ea2d_17 ?_
  have hPc := hP.sub (ws' := [(a, .inr (4, [.int x_1482, .ref ed, .int 0]))]) [0] rfl
  have hDc := hD.sub (ws' := [(a, .inr (4, [.int x_1482, .ref ed, .int 0]))]) [0] (by decide) rfl
  have hKc := hK.sub (tys' := []) [] rfl
  have hFc := va_free (wc := [(a, .inr (4, [.int x_1482, .ref ed, .int 0]))]) hD hS hA [0] rfl
  refine va_callv (va_runV (As := [.ref el, .ref ed, .int 0]) (rest := []) ⟨hx, hb, hml, hown, hts⟩ (r_add3 l dC dI H.size ed a el x_1482) (cwV 3 hts (pw_V q435 q437 q4 q46 q438) rfl rfl rfl (by decide +kernel) ⟨(Nat.le_of_ble_eq_true rfl), (Nat.le_of_ble_eq_true rfl)⟩) ⟨fun a U g mk q => by obtain ⟨q0, q1, qP, qK, qD, qZ, qE⟩ := q; exact ⟨q0, q1, qP, va_K.moved (u := U) (U := U.calling g mk a) (Vm.Alike.refl U.vm) qK, qD, qZ.same rfl, qE.same rfl⟩, va_recv hKc hPc (ci := 4) (q0 := 0) rfl rfl, fun U hU hW => ⟨rfl, by rw [hU], by rw [hU]; exact hPc, va_K.moved hW.alike hKc, hDc.weaken (fun _ _ _ _ => trivial), hZ.call hS hFc hU hW, hE.call hS hFc hU hW⟩⟩ rfl rfl hl.1 rfl (lv_room (Nat.le_of_ble_eq_true rfl)) dJx4a65c_add_9ea2d_20 ⟨(Nat.le_of_ble_eq_true rfl), (Nat.le_of_ble_eq_true rfl)⟩) hS (fun q _ h => hFc q h) hFc (fun u t H1 locs ht hvm hw hB hz1 hk1 hS => ?_)
  obtain ⟨qa_1484, ce_1485, hP1, hK1, hD1⟩ := hB
  rw [ht] at hP1
  have hK1 := va_K.moved hvm.symm hK1
  obtain ⟨hP, hD⟩ := va_join (wr := []) (w1 := [(a, .inr (4, [.int x_1482, .ref qa_1484, .int 1])), (qa_1484, .inl (ce_1485, 10, .inr (.inr (.inr (.inr (va_up (fun _ => none) 0 (some el)))))))]) hP hD [0] [] rfl rfl (by decide) (by decide) hk1 hFc hP1 hD1
  have hK := (hK.sub (tys' := []) [] rfl).app hK1
  generalize H1 = H at hP hS ⊢
  have hP : va_P (dC, dI) vwCl [(a, .inr (4, [.int x_1482, .ref qa_1484, .int 1])), (qa_1484, .inl (ce_1485, 10, .inr (.inr (.inr (.inr (va_up (fun _ => none) 0 (some el)))))))] H := hP
  have hD : va_D A [(a, .inr (4, [.int x_1482, .ref qa_1484, .int 1])), (qa_1484, .inl (ce_1485, 10, .inr (.inr (.inr (.inr (va_up (fun _ => none) 0 (some el)))))))] := hD
  have hK : va_K (dC, dI) vwCl [(ce_1485, .object "java/lang/Object")] s := hK
  refine W.widen (k := 1) (n := 10) (Nat.le_of_ble_eq_true rfl) (Nat.le_of_ble_eq_true rfl) ?_
  refine lv_iconst (v := 1) hx hb dJx4a65c_add_9ea2d_23 (by decide) ?_
  have hP9 := hP.sub (ws' := [(a, .inr (4, [.int x_1482, .ref qa_1484, .int 1])), (qa_1484, .inl (ce_1485, 10, .inr (.inr (.inr (.inr (va_up (fun _ => none) 0 (some el)))))))]) [0, 1] rfl
  have hD9 := hD.sub (ws' := [(a, .inr (4, [.int x_1482, .ref qa_1484, .int 1])), (qa_1484, .inl (ce_1485, 10, .inr (.inr (.inr (.inr (va_up (fun _ => none) 0 (some el)))))))]) [0, 1] (by decide) rfl
  have hK9 := hK.sub (tys' := [(ce_1485, .object "java/lang/Object")]) [0] rfl
  refine W.widen (k := 1) (n := 10) (Nat.le_of_ble_eq_true rfl) (Nat.le_of_ble_eq_true rfl) ?_
  exact W.zret (v := 1) hx hb hr (by decide) (fun t ht hW => ⟨⟨1, (), rfl, rfl, ⟨qa_1484, ce_1485, x_1482, by rw [ht]; exact hP9, va_K.moved hW.alike hK9, hD9⟩⟩, hS.F ht⟩) hS.2.2 dJx4a65c_add_9ea2d_24
set_option maxHeartbeats 4000000 in
set_option maxRecDepth 100000 in
theorem r_pre (l : Launch) (dC : Nat → ClassId) (dI : Nat → Nat → Nat) (sz : Nat) : Met l yJ3_checkIndex_8e157 (pw_ws yJ3_checkIndex_8e157 cJ3_checkIndex_8e157 3 (some .int)) ({ frames := 1, cells := 0, slots := 0, locals := 20 } : Room) (va_Pc [.int 0, .int 1, .null] (fun U => U.heap.size = sz ∧ va_P (dC, dI) vwCl [] U.heap ∧ va_K (dC, dI) vwCl [] U ∧ va_D (fun _ => True) [])) (va_Qi (fun (r : Int32) (_ : Unit) => r = 0) (fun (_ : Unit) (t : State) => va_P (dC, dI) vwCl [] t.heap ∧ va_K (dC, dI) vwCl [] t ∧ va_D (va_A [] sz) []) (va_A [] sz)) 0 0 (va_A [] sz) := by
  refine Met.ofW (cc := cJ3_checkIndex_8e157) (maxL := 3) (ret := (some .int)) (by decide) rfl ?_
  intro p e s m args below meth c s₁ B hml hv
  obtain ⟨rfl, hsz, hP, hK, hD0⟩ := hv
  have hx := B.exec
  have hb := B.bytes
  have hr := B.returns
  have hts0 := atoms_spec (ws := (pw_ws yJ3_checkIndex_8e157 cJ3_checkIndex_8e157 3 (some .int))) B.pre
  have hts : ∀ w ∈ pw_all, w.before _ s = true := fun w h => hts0 w (List.mem_cons_of_mem _ h)
  have hown : s.vm.findClass RJ3 = some m.cls := findClass_of_methodNamed B.named
  have hlocks := B.notSynchronized
  subst hsz
  have hD := hD0.self (sz := s.heap.size)
  generalize hAe : va_A [] s.heap.size = A at hD ⊢
  have hA : ∀ q : Nat, s.heap.size ≤ q → A q := fun q h => by rw [← hAe]; exact Or.inr h
  have hS : va_S A s.heap s.heap [] := va_S.rf
  have hP : va_P (dC, dI) vwCl [] s.heap := hP
  have hl := lv_entry ([.int 0, .int 1, .null]) (n := 3) (Nat.le_of_ble_eq_true rfl)
  rw [lg_entry_eq]
  generalize (lg_sl ([.int 0, .int 1, .null]) ++ List.replicate (3 - (lg_sl ([.int 0, .int 1, .null])).length) Slot.unset).toArray = ls at hl ⊢
  have hl : lv_has ls 3 [(0, .int 0), (1, .int 1), (2, .null)] := hl
  skip
  refine lv_iload_n hx hb dJ3_checkIndex_8e157_0 rfl (lv_at hl 0 rfl) ?_
  refine lv_if_lt (tgt := 9) hx hb dJ3_checkIndex_8e157_1 (by decide) (fun c_1486 => absurd c_1486 (by decide)) (fun c_1486 => ?_)
  refine lv_iload_n hx hb dJ3_checkIndex_8e157_4 rfl (lv_at hl 0 rfl) ?_
  refine lv_iload_n hx hb dJ3_checkIndex_8e157_5 rfl (lv_at hl 1 rfl) ?_
  refine lv_icmp_lt (tgt := 16) hx hb dJ3_checkIndex_8e157_6 (by decide) (fun c_1487 => ?_) (fun c_1487 => absurd (by decide) c_1487)
  refine lv_iload_n hx hb dJ3_checkIndex_8e157_16 rfl (lv_at hl 0 rfl) ?_
  have hP9 := hP.sub (ws' := []) [] rfl
  have hD9 := hD.sub (ws' := []) [] (by decide) rfl
  have hK9 := hK.sub (tys' := []) [] rfl
  refine W.widen (k := 0) (n := 0) (Nat.le_of_ble_eq_true rfl) (Nat.le_of_ble_eq_true rfl) ?_
  exact W.iret (v := 0) hx hb hr (fun t ht hW => ⟨⟨0, (), rfl, rfl, ⟨by rw [ht]; exact hP9, va_K.moved hW.alike hK9, hD9⟩⟩, hS.F ht⟩) hS.2.2 dJ3_checkIndex_8e157_17
set_option maxHeartbeats 4000000 in
set_option maxRecDepth 100000 in
theorem r_chk (l : Launch) (dC : Nat → ClassId) (dI : Nat → Nat → Nat) (sz : Nat) : Met l yJ15_checkIndex_7cf53 (pw_ws yJ15_checkIndex_7cf53 cJ15_checkIndex_7cf53 2 (some .int)) ({ frames := 2, cells := 0, slots := 0, locals := 42 } : Room) (va_Pc [.int 0, .int 1] (fun U => U.heap.size = sz ∧ va_P (dC, dI) vwCl [] U.heap ∧ va_K (dC, dI) vwCl [] U ∧ va_D (fun _ => True) [])) (va_Qi (fun (r : Int32) (_ : Unit) => r = 0) (fun (_ : Unit) (t : State) => va_P (dC, dI) vwCl [] t.heap ∧ va_K (dC, dI) vwCl [] t ∧ va_D (va_A [] sz) []) (va_A [] sz)) 0 0 (va_A [] sz) := by
  refine Met.ofW (cc := cJ15_checkIndex_7cf53) (maxL := 2) (ret := (some .int)) (by decide) rfl ?_
  intro p e s m args below meth c s₁ B hml hv
  obtain ⟨rfl, hsz, hP, hK, hD0⟩ := hv
  have hx := B.exec
  have hb := B.bytes
  have hr := B.returns
  have hts0 := atoms_spec (ws := (pw_ws yJ15_checkIndex_7cf53 cJ15_checkIndex_7cf53 2 (some .int))) B.pre
  have hts : ∀ w ∈ pw_all, w.before _ s = true := fun w h => hts0 w (List.mem_cons_of_mem _ h)
  have hown : s.vm.findClass RJ15 = some m.cls := findClass_of_methodNamed B.named
  have hlocks := B.notSynchronized
  subst hsz
  have hD := hD0.self (sz := s.heap.size)
  generalize hAe : va_A [] s.heap.size = A at hD ⊢
  have hA : ∀ q : Nat, s.heap.size ≤ q → A q := fun q h => by rw [← hAe]; exact Or.inr h
  have hS : va_S A s.heap s.heap [] := va_S.rf
  have hP : va_P (dC, dI) vwCl [] s.heap := hP
  have hl := lv_entry ([.int 0, .int 1]) (n := 2) (Nat.le_of_ble_eq_true rfl)
  rw [lg_entry_eq]
  generalize (lg_sl ([.int 0, .int 1]) ++ List.replicate (2 - (lg_sl ([.int 0, .int 1])).length) Slot.unset).toArray = ls at hl ⊢
  have hl : lv_has ls 2 [(0, .int 0), (1, .int 1)] := hl
  skip
  refine lv_iload_n hx hb dJ15_checkIndex_7cf53_0 rfl (lv_at hl 0 rfl) ?_
  refine lv_iload_n hx hb dJ15_checkIndex_7cf53_1 rfl (lv_at hl 1 rfl) ?_
  refine lv_null hx hb dJ15_checkIndex_7cf53_2 ?_
  have hPc := hP.sub (ws' := []) [] rfl
  have hDc := hD.sub (ws' := []) [] (by decide) rfl
  have hKc := hK.sub (tys' := []) [] rfl
  have hFc := va_free (wc := []) hD hS hA [] rfl
  refine va_calli (va_runS (As := [.int 0, .int 1, .null]) (rest := []) ⟨hx, hb, hml, hown, hts⟩ (r_pre l dC dI s.heap.size) (va_cwS 3 hts (pw_S q284 q285 q62 q286) rfl rfl rfl (by decide +kernel) ⟨(Nat.le_of_ble_eq_true rfl), (Nat.le_of_ble_eq_true rfl)⟩) ⟨fun a U g mk q => by obtain ⟨q0, q1, qP, qK, qD⟩ := q; exact ⟨q0, q1, qP, va_K.moved (u := U) (U := U.calling g mk a) (Vm.Alike.refl U.vm) qK, qD⟩, fun U hU hW => ⟨rfl, by rw [hU], by rw [hU]; exact hPc, va_K.moved hW.alike hKc, hDc.weaken (fun _ _ _ _ => trivial)⟩⟩ rfl rfl hl.1 rfl (lv_room (Nat.le_of_ble_eq_true rfl)) dJ15_checkIndex_7cf53_3 ⟨(Nat.le_of_ble_eq_true rfl), (Nat.le_of_ble_eq_true rfl)⟩) hS (fun q _ h => hFc q h) hFc (fun r_1488 u t H1 locs ht hvm hw hB hz1 hk1 hS => ?_)
  obtain ⟨hP1, hK1, hD1⟩ := hB
  rw [ht] at hP1
  have hK1 := va_K.moved hvm.symm hK1
  obtain ⟨hP, hD⟩ := va_join (wr := []) (w1 := []) hP hD [] [] rfl rfl (by decide) (by decide) hk1 hFc hP1 hD1
  have hK := (hK.sub (tys' := []) [] rfl).app hK1
  generalize H1 = H at hP hS ⊢
  have hP : va_P (dC, dI) vwCl [] H := hP
  have hD : va_D A [] := hD
  have hK : va_K (dC, dI) vwCl [] s := hK
  refine W.widen (k := 0) (n := 0) (Nat.le_of_ble_eq_true rfl) (Nat.le_of_ble_eq_true rfl) ?_
  have hw : r_1488 = 0 := hw
  subst hw
  have hP9 := hP.sub (ws' := []) [] rfl
  have hD9 := hD.sub (ws' := []) [] (by decide) rfl
  have hK9 := hK.sub (tys' := []) [] rfl
  refine W.widen (k := 0) (n := 0) (Nat.le_of_ble_eq_true rfl) (Nat.le_of_ble_eq_true rfl) ?_
  exact W.iret (v := 0) hx hb hr (fun t ht hW => ⟨⟨0, (), rfl, rfl, ⟨by rw [ht]; exact hP9, va_K.moved hW.alike hK9, hD9⟩⟩, hS.F ht⟩) hS.2.2 dJ15_checkIndex_7cf53_6
set_option maxHeartbeats 4000000 in
set_option maxRecDepth 100000 in
theorem r_elem (l : Launch) (dC : Nat → ClassId) (dI : Nat → Nat → Nat) (sz : Nat) (a : Nat) (ea : Nat) (y : Nat) (ce : ClassId) (m0 : Int32) : Met l yJx4a65c_elementData_915e3 (pw_ws yJx4a65c_elementData_915e3 cJx4a65c_elementData_915e3 2 (some (.object "java/lang/Object"))) ({ frames := 1, cells := 0, slots := 0, locals := 20 } : Room) (va_Pc [.ref a, .int 0] (fun U => U.heap.size = sz ∧ va_P (dC, dI) vwCl [(a, .inr (4, [.int m0, .ref ea, .int 1])), (ea, .inl (ce, 10, .inr (.inr (.inr (.inr (va_up (fun _ => none) 0 (some y)))))))] U.heap ∧ va_K (dC, dI) vwCl [(ce, .object "java/lang/Object")] U ∧ va_D (fun _ => True) [(a, .inr (4, [.int m0, .ref ea, .int 1])), (ea, .inl (ce, 10, .inr (.inr (.inr (.inr (va_up (fun _ => none) 0 (some y)))))))])) (va_Qr (fun (_ : Unit) => True) (fun (_ : Unit) (ra : Nat) (t : State) => ra = y ∧ va_P (dC, dI) vwCl [(a, .inr (4, [.int m0, .ref ea, .int 1])), (ea, .inl (ce, 10, .inr (.inr (.inr (.inr (va_up (fun _ => none) 0 (some y)))))))] t.heap ∧ va_K (dC, dI) vwCl [(ce, .object "java/lang/Object")] t ∧ va_D (va_A [(a, .inr (4, [.int m0, .ref ea, .int 1])), (ea, .inl (ce, 10, .inr (.inr (.inr (.inr (va_up (fun _ => none) 0 (some y)))))))] sz) [(a, .inr (4, [.int m0, .ref ea, .int 1])), (ea, .inl (ce, 10, .inr (.inr (.inr (.inr (va_up (fun _ => none) 0 (some y)))))))]) (va_A [(a, .inr (4, [.int m0, .ref ea, .int 1])), (ea, .inl (ce, 10, .inr (.inr (.inr (.inr (va_up (fun _ => none) 0 (some y)))))))] sz)) 0 0 (va_A [(a, .inr (4, [.int m0, .ref ea, .int 1])), (ea, .inl (ce, 10, .inr (.inr (.inr (.inr (va_up (fun _ => none) 0 (some y)))))))] sz) := by
  refine Met.ofW (cc := cJx4a65c_elementData_915e3) (maxL := 2) (ret := (some (.object "java/lang/Object"))) (by decide) rfl ?_
  intro p e s m args below meth c s₁ B hml hv
  obtain ⟨rfl, hsz, hP, hK, hD0⟩ := hv
  have hx := B.exec
  have hb := B.bytes
  have hr := B.returns
  have hts0 := atoms_spec (ws := (pw_ws yJx4a65c_elementData_915e3 cJx4a65c_elementData_915e3 2 (some (.object "java/lang/Object")))) B.pre
  have hts : ∀ w ∈ pw_all, w.before _ s = true := fun w h => hts0 w (List.mem_cons_of_mem _ h)
  have hown : s.vm.findClass RJx4a65c = some m.cls := findClass_of_methodNamed B.named
  have hlocks := B.notSynchronized
  subst hsz
  have hD := hD0.self (sz := s.heap.size)
  generalize hAe : va_A [(a, .inr (4, [.int m0, .ref ea, .int 1])), (ea, .inl (ce, 10, .inr (.inr (.inr (.inr (va_up (fun _ => none) 0 (some y)))))))] s.heap.size = A at hD ⊢
  have hA : ∀ q : Nat, s.heap.size ≤ q → A q := fun q h => by rw [← hAe]; exact Or.inr h
  have hS : va_S A s.heap s.heap [] := va_S.rf
  have hP : va_P (dC, dI) vwCl [(a, .inr (4, [.int m0, .ref ea, .int 1])), (ea, .inl (ce, 10, .inr (.inr (.inr (.inr (va_up (fun _ => none) 0 (some y)))))))] s.heap := hP
  have hl := lv_entry ([.ref a, .int 0]) (n := 2) (Nat.le_of_ble_eq_true rfl)
  rw [lg_entry_eq]
  generalize (lg_sl ([.ref a, .int 0]) ++ List.replicate (2 - (lg_sl ([.ref a, .int 0])).length) Slot.unset).toArray = ls at hl ⊢
  have hl : lv_has ls 2 [(0, .ref a), (1, .int 0)] := hl
  skip
  refine lv_aload_n hx hb dJx4a65c_elementData_915e3_0 rfl (lv_at hl 0 rfl) ?_
  refine va_get (D := (dC, dI)) (ci := 4) (v := .ref ea) (C := RJx4a65c) (T := TJx4a65c) (N := 3) hx hb hts inJx4a65c hown hK hP 0 rfl rfl 1 (by decide) (hts _ q102) (fun _ h9 => h9) rfl dJx4a65c_elementData_915e3_1 ?_
  refine lv_iload_n hx hb dJx4a65c_elementData_915e3_4 rfl (lv_at hl 1 rfl) ?_
  refine va_aldq hx hb hK hP 1 0 rfl rfl (by unfold vp_in; decide) dJx4a65c_elementData_915e3_5 ?_
  refine lv_topr (v := .ref y) (by first | rfl | decide | simp [va_rf, va_up]) ?_
  have hP9 := hP.sub (ws' := [(a, .inr (4, [.int m0, .ref ea, .int 1])), (ea, .inl (ce, 10, .inr (.inr (.inr (.inr (va_up (fun _ => none) 0 (some y)))))))]) [0, 1] rfl
  have hD9 := hD.sub (ws' := [(a, .inr (4, [.int m0, .ref ea, .int 1])), (ea, .inl (ce, 10, .inr (.inr (.inr (.inr (va_up (fun _ => none) 0 (some y)))))))]) [0, 1] (by decide) rfl
  have hK9 := hK.sub (tys' := [(ce, .object "java/lang/Object")]) [0] rfl
  refine W.widen (k := 0) (n := 0) (Nat.le_of_ble_eq_true rfl) (Nat.le_of_ble_eq_true rfl) ?_
  exact W.aret (v := .ref y) hx hb hr (by first | exact Or.inl ⟨_, rfl⟩ | exact Or.inr ⟨_, rfl⟩) (Or.inr ⟨_, rfl⟩) (fun t ht hW => ⟨⟨(), y, rfl, trivial, ⟨rfl, by rw [ht]; exact hP9, va_K.moved hW.alike hK9, hD9⟩⟩, hS.F ht⟩) hS.2.2 dJx4a65c_elementData_915e3_6
set_option maxHeartbeats 4000000 in
set_option maxRecDepth 100000 in
theorem r_get (l : Launch) (dC : Nat → ClassId) (dI : Nat → Nat → Nat) (sz : Nat) (a : Nat) (ea : Nat) (y : Nat) (ce : ClassId) (m0 : Int32) : Met l yJx4a65c_get_915e3 (pw_ws yJx4a65c_get_915e3 cJx4a65c_get_915e3 2 (some (.object "java/lang/Object"))) ({ frames := 3, cells := 0, slots := 0, locals := 63 } : Room) (va_Pc [.ref a, .int 0] (fun U => U.heap.size = sz ∧ va_P (dC, dI) vwCl [(a, .inr (4, [.int m0, .ref ea, .int 1])), (ea, .inl (ce, 10, .inr (.inr (.inr (.inr (va_up (fun _ => none) 0 (some y)))))))] U.heap ∧ va_K (dC, dI) vwCl [(ce, .object "java/lang/Object")] U ∧ va_D (fun _ => True) [(a, .inr (4, [.int m0, .ref ea, .int 1])), (ea, .inl (ce, 10, .inr (.inr (.inr (.inr (va_up (fun _ => none) 0 (some y)))))))])) (va_Qr (fun (_ : Unit) => True) (fun (_ : Unit) (ra : Nat) (t : State) => ra = y ∧ va_P (dC, dI) vwCl [(a, .inr (4, [.int m0, .ref ea, .int 1])), (ea, .inl (ce, 10, .inr (.inr (.inr (.inr (va_up (fun _ => none) 0 (some y)))))))] t.heap ∧ va_K (dC, dI) vwCl [(ce, .object "java/lang/Object")] t ∧ va_D (va_A [(a, .inr (4, [.int m0, .ref ea, .int 1])), (ea, .inl (ce, 10, .inr (.inr (.inr (.inr (va_up (fun _ => none) 0 (some y)))))))] sz) [(a, .inr (4, [.int m0, .ref ea, .int 1])), (ea, .inl (ce, 10, .inr (.inr (.inr (.inr (va_up (fun _ => none) 0 (some y)))))))]) (va_A [(a, .inr (4, [.int m0, .ref ea, .int 1])), (ea, .inl (ce, 10, .inr (.inr (.inr (.inr (va_up (fun _ => none) 0 (some y)))))))] sz)) 0 0 (va_A [(a, .inr (4, [.int m0, .ref ea, .int 1])), (ea, .inl (ce, 10, .inr (.inr (.inr (.inr (va_up (fun _ => none) 0 (some y)))))))] sz) := by
  refine Met.ofW (cc := cJx4a65c_get_915e3) (maxL := 2) (ret := (some (.object "java/lang/Object"))) (by decide) rfl ?_
  intro p e s m args below meth c s₁ B hml hv
  obtain ⟨rfl, hsz, hP, hK, hD0⟩ := hv
  have hx := B.exec
  have hb := B.bytes
  have hr := B.returns
  have hts0 := atoms_spec (ws := (pw_ws yJx4a65c_get_915e3 cJx4a65c_get_915e3 2 (some (.object "java/lang/Object")))) B.pre
  have hts : ∀ w ∈ pw_all, w.before _ s = true := fun w h => hts0 w (List.mem_cons_of_mem _ h)
  have hown : s.vm.findClass RJx4a65c = some m.cls := findClass_of_methodNamed B.named
  have hlocks := B.notSynchronized
  subst hsz
  have hD := hD0.self (sz := s.heap.size)
  generalize hAe : va_A [(a, .inr (4, [.int m0, .ref ea, .int 1])), (ea, .inl (ce, 10, .inr (.inr (.inr (.inr (va_up (fun _ => none) 0 (some y)))))))] s.heap.size = A at hD ⊢
  have hA : ∀ q : Nat, s.heap.size ≤ q → A q := fun q h => by rw [← hAe]; exact Or.inr h
  have hS : va_S A s.heap s.heap [] := va_S.rf
  have hP : va_P (dC, dI) vwCl [(a, .inr (4, [.int m0, .ref ea, .int 1])), (ea, .inl (ce, 10, .inr (.inr (.inr (.inr (va_up (fun _ => none) 0 (some y)))))))] s.heap := hP
  have hl := lv_entry ([.ref a, .int 0]) (n := 2) (Nat.le_of_ble_eq_true rfl)
  rw [lg_entry_eq]
  generalize (lg_sl ([.ref a, .int 0]) ++ List.replicate (2 - (lg_sl ([.ref a, .int 0])).length) Slot.unset).toArray = ls at hl ⊢
  have hl : lv_has ls 2 [(0, .ref a), (1, .int 0)] := hl
  skip
  refine lv_iload_n hx hb dJx4a65c_get_915e3_0 rfl (lv_at hl 1 rfl) ?_
  refine lv_aload_n hx hb dJx4a65c_get_915e3_1 rfl (lv_at hl 0 rfl) ?_
  refine va_get (D := (dC, dI)) (ci := 4) (v := .int 1) (C := RJx4a65c) (T := TJx4a65c) (N := 3) hx hb hts inJx4a65c hown hK hP 0 rfl rfl 2 (by decide) (hts _ q105) (fun _ h9 => h9) rfl dJx4a65c_get_915e3_2 ?_
  have hPc := hP.sub (ws' := []) [] rfl
  have hDc := hD.sub (ws' := []) [] (by decide) rfl
  have hKc := hK.sub (tys' := []) [] rfl
  have hFc := va_free (wc := []) hD hS hA [] rfl
  refine va_calli (va_runS (As := [.int 0, .int 1]) (rest := []) ⟨hx, hb, hml, hown, hts⟩ (r_chk l dC dI s.heap.size) (va_cwS 2 hts (pw_S q281 q282 q61 q283) rfl rfl rfl (by decide +kernel) ⟨(Nat.le_of_ble_eq_true rfl), (Nat.le_of_ble_eq_true rfl)⟩) ⟨fun a U g mk q => by obtain ⟨q0, q1, qP, qK, qD⟩ := q; exact ⟨q0, q1, qP, va_K.moved (u := U) (U := U.calling g mk a) (Vm.Alike.refl U.vm) qK, qD⟩, fun U hU hW => ⟨rfl, by rw [hU], by rw [hU]; exact hPc, va_K.moved hW.alike hKc, hDc.weaken (fun _ _ _ _ => trivial)⟩⟩ rfl rfl hl.1 rfl (lv_room (Nat.le_of_ble_eq_true rfl)) dJx4a65c_get_915e3_5 ⟨(Nat.le_of_ble_eq_true rfl), (Nat.le_of_ble_eq_true rfl)⟩) hS (fun q _ h => hFc q h) hFc (fun r_1489 u t H1 locs ht hvm hw hB hz1 hk1 hS => ?_)
  obtain ⟨hP1, hK1, hD1⟩ := hB
  rw [ht] at hP1
  have hK1 := va_K.moved hvm.symm hK1
  obtain ⟨hP, hD⟩ := va_join (wr := [(a, .inr (4, [.int m0, .ref ea, .int 1])), (ea, .inl (ce, 10, .inr (.inr (.inr (.inr (va_up (fun _ => none) 0 (some y)))))))]) (w1 := []) hP hD [] [0, 1] rfl rfl (by decide) (by decide) hk1 hFc hP1 hD1
  have hK := (hK.sub (tys' := [(ce, .object "java/lang/Object")]) [0] rfl).app hK1
  generalize H1 = H at hP hS ⊢
  have hP : va_P (dC, dI) vwCl [(a, .inr (4, [.int m0, .ref ea, .int 1])), (ea, .inl (ce, 10, .inr (.inr (.inr (.inr (va_up (fun _ => none) 0 (some y)))))))] H := hP
  have hD : va_D A [(a, .inr (4, [.int m0, .ref ea, .int 1])), (ea, .inl (ce, 10, .inr (.inr (.inr (.inr (va_up (fun _ => none) 0 (some y)))))))] := hD
  have hK : va_K (dC, dI) vwCl [(ce, .object "java/lang/Object")] s := hK
  refine W.widen (k := 0) (n := 0) (Nat.le_of_ble_eq_true rfl) (Nat.le_of_ble_eq_true rfl) ?_
  have hw : r_1489 = 0 := hw
  subst hw
  refine lv_pop hx hb dJx4a65c_get_915e3_8 rfl ?_
  refine lv_aload_n hx hb dJx4a65c_get_915e3_9 rfl (lv_at hl 0 rfl) ?_
  refine lv_iload_n hx hb dJx4a65c_get_915e3_10 rfl (lv_at hl 1 rfl) ?_
  have hPc := hP.sub (ws' := [(a, .inr (4, [.int m0, .ref ea, .int 1])), (ea, .inl (ce, 10, .inr (.inr (.inr (.inr (va_up (fun _ => none) 0 (some y)))))))]) [0, 1] rfl
  have hDc := hD.sub (ws' := [(a, .inr (4, [.int m0, .ref ea, .int 1])), (ea, .inl (ce, 10, .inr (.inr (.inr (.inr (va_up (fun _ => none) 0 (some y)))))))]) [0, 1] (by decide) rfl
  have hKc := hK.sub (tys' := [(ce, .object "java/lang/Object")]) [0] rfl
  have hFc := va_free (wc := [(a, .inr (4, [.int m0, .ref ea, .int 1])), (ea, .inl (ce, 10, .inr (.inr (.inr (.inr (va_up (fun _ => none) 0 (some y)))))))]) hD hS hA [0, 1] rfl
  refine va_callr (va_runV (As := [.int 0]) (rest := []) ⟨hx, hb, hml, hown, hts⟩ (r_elem l dC dI H.size a ea y ce m0) (cwV 1 hts (pw_V q287 q288 q289 q46 q290) rfl rfl rfl (by decide +kernel) ⟨(Nat.le_of_ble_eq_true rfl), (Nat.le_of_ble_eq_true rfl)⟩) ⟨fun a U g mk q => by obtain ⟨q0, q1, qP, qK, qD⟩ := q; exact ⟨q0, q1, qP, va_K.moved (u := U) (U := U.calling g mk a) (Vm.Alike.refl U.vm) qK, qD⟩, va_recv hKc hPc (ci := 4) (q0 := 0) rfl rfl, fun U hU hW => ⟨rfl, by rw [hU], by rw [hU]; exact hPc, va_K.moved hW.alike hKc, hDc.weaken (fun _ _ _ _ => trivial)⟩⟩ rfl rfl hl.1 rfl (lv_room (Nat.le_of_ble_eq_true rfl)) dJx4a65c_get_915e3_11 ⟨(Nat.le_of_ble_eq_true rfl), (Nat.le_of_ble_eq_true rfl)⟩) hS (fun q _ h => hFc q h) hFc (fun u r_1490 t H1 locs ht hvm hw hB hz1 hk1 hS => ?_)
  obtain ⟨hra, hP1, hK1, hD1⟩ := hB
  rw [ht] at hP1
  have hK1 := va_K.moved hvm.symm hK1
  obtain ⟨hP, hD⟩ := va_join (wr := []) (w1 := [(a, .inr (4, [.int m0, .ref ea, .int 1])), (ea, .inl (ce, 10, .inr (.inr (.inr (.inr (va_up (fun _ => none) 0 (some y)))))))]) hP hD [0, 1] [] rfl rfl (by decide) (by decide) hk1 hFc hP1 hD1
  have hK := (hK.sub (tys' := []) [] rfl).app hK1
  generalize H1 = H at hP hS ⊢
  have hP : va_P (dC, dI) vwCl [(a, .inr (4, [.int m0, .ref ea, .int 1])), (ea, .inl (ce, 10, .inr (.inr (.inr (.inr (va_up (fun _ => none) 0 (some y)))))))] H := hP
  have hD : va_D A [(a, .inr (4, [.int m0, .ref ea, .int 1])), (ea, .inl (ce, 10, .inr (.inr (.inr (.inr (va_up (fun _ => none) 0 (some y)))))))] := hD
  have hK : va_K (dC, dI) vwCl [(ce, .object "java/lang/Object")] s := hK
  refine W.widen (k := 0) (n := 0) (Nat.le_of_ble_eq_true rfl) (Nat.le_of_ble_eq_true rfl) ?_
  replace hra := hra.symm; subst hra
  have hP9 := hP.sub (ws' := [(a, .inr (4, [.int m0, .ref ea, .int 1])), (ea, .inl (ce, 10, .inr (.inr (.inr (.inr (va_up (fun _ => none) 0 (some y)))))))]) [0, 1] rfl
  have hD9 := hD.sub (ws' := [(a, .inr (4, [.int m0, .ref ea, .int 1])), (ea, .inl (ce, 10, .inr (.inr (.inr (.inr (va_up (fun _ => none) 0 (some y)))))))]) [0, 1] (by decide) rfl
  have hK9 := hK.sub (tys' := [(ce, .object "java/lang/Object")]) [0] rfl
  refine W.widen (k := 0) (n := 0) (Nat.le_of_ble_eq_true rfl) (Nat.le_of_ble_eq_true rfl) ?_
  exact W.aret (v := .ref y) hx hb hr (by first | exact Or.inl ⟨_, rfl⟩ | exact Or.inr ⟨_, rfl⟩) (Or.inr ⟨_, rfl⟩) (fun t ht hW => ⟨⟨(), y, rfl, trivial, ⟨rfl, by rw [ht]; exact hP9, va_K.moved hW.alike hK9, hD9⟩⟩, hS.F ht⟩) hS.2.2 dJx4a65c_get_915e3_14
set_option maxHeartbeats 4000000 in
set_option maxRecDepth 100000 in
theorem r_notEmpty (l : Launch) (dC : Nat → ClassId) (dI : Nat → Nat → Nat) (sz : Nat) (a : Nat) (v0 : Value) (v1 : Value) : Met l yJx4a65c_isEmpty_aae02 (pw_ws yJx4a65c_isEmpty_aae02 cJx4a65c_isEmpty_aae02 1 (some .boolean)) ({ frames := 1, cells := 0, slots := 0, locals := 20 } : Room) (va_Pc [.ref a] (fun U => U.heap.size = sz ∧ va_P (dC, dI) vwCl [(a, .inr (4, [v0, v1, .int 1]))] U.heap ∧ va_K (dC, dI) vwCl [] U ∧ va_D (fun _ => True) [(a, .inr (4, [v0, v1, .int 1]))])) (va_Qi (fun (r : Int32) (_ : Unit) => r = 0) (fun (_ : Unit) (t : State) => va_P (dC, dI) vwCl [(a, .inr (4, [v0, v1, .int 1]))] t.heap ∧ va_K (dC, dI) vwCl [] t ∧ va_D (va_A [(a, .inr (4, [v0, v1, .int 1]))] sz) [(a, .inr (4, [v0, v1, .int 1]))]) (va_A [(a, .inr (4, [v0, v1, .int 1]))] sz)) 0 0 (va_A [(a, .inr (4, [v0, v1, .int 1]))] sz) := by
  refine Met.ofW (cc := cJx4a65c_isEmpty_aae02) (maxL := 1) (ret := (some .boolean)) (by decide) rfl ?_
  intro p e s m args below meth c s₁ B hml hv
  obtain ⟨rfl, hsz, hP, hK, hD0⟩ := hv
  have hx := B.exec
  have hb := B.bytes
  have hr := B.returns
  have hts0 := atoms_spec (ws := (pw_ws yJx4a65c_isEmpty_aae02 cJx4a65c_isEmpty_aae02 1 (some .boolean))) B.pre
  have hts : ∀ w ∈ pw_all, w.before _ s = true := fun w h => hts0 w (List.mem_cons_of_mem _ h)
  have hown : s.vm.findClass RJx4a65c = some m.cls := findClass_of_methodNamed B.named
  have hlocks := B.notSynchronized
  subst hsz
  have hD := hD0.self (sz := s.heap.size)
  generalize hAe : va_A [(a, .inr (4, [v0, v1, .int 1]))] s.heap.size = A at hD ⊢
  have hA : ∀ q : Nat, s.heap.size ≤ q → A q := fun q h => by rw [← hAe]; exact Or.inr h
  have hS : va_S A s.heap s.heap [] := va_S.rf
  have hP : va_P (dC, dI) vwCl [(a, .inr (4, [v0, v1, .int 1]))] s.heap := hP
  have hl := lv_entry ([.ref a]) (n := 1) (Nat.le_of_ble_eq_true rfl)
  rw [lg_entry_eq]
  generalize (lg_sl ([.ref a]) ++ List.replicate (1 - (lg_sl ([.ref a])).length) Slot.unset).toArray = ls at hl ⊢
  have hl : lv_has ls 1 [(0, .ref a)] := hl
  skip
  refine lv_aload_n hx hb dJx4a65c_isEmpty_aae02_0 rfl (lv_at hl 0 rfl) ?_
  refine va_get (D := (dC, dI)) (ci := 4) (v := .int 1) (C := RJx4a65c) (T := TJx4a65c) (N := 3) hx hb hts inJx4a65c hown hK hP 0 rfl rfl 2 (by decide) (hts _ q105) (fun _ h9 => h9) rfl dJx4a65c_isEmpty_aae02_1 ?_
  refine lv_if_ne (tgt := 11) hx hb dJx4a65c_isEmpty_aae02_4 (by decide) (fun c_1491 => ?_) (fun c_1491 => absurd c_1491 (by decide))
  refine lv_iconst (v := 0) hx hb dJx4a65c_isEmpty_aae02_11 (by decide) ?_
  have hP9 := hP.sub (ws' := [(a, .inr (4, [v0, v1, .int 1]))]) [0] rfl
  have hD9 := hD.sub (ws' := [(a, .inr (4, [v0, v1, .int 1]))]) [0] (by decide) rfl
  have hK9 := hK.sub (tys' := []) [] rfl
  refine W.widen (k := 0) (n := 0) (Nat.le_of_ble_eq_true rfl) (Nat.le_of_ble_eq_true rfl) ?_
  exact W.zret (v := 0) hx hb hr (by decide) (fun t ht hW => ⟨⟨0, (), rfl, rfl, ⟨by rw [ht]; exact hP9, va_K.moved hW.alike hK9, hD9⟩⟩, hS.F ht⟩) hS.2.2 dJx4a65c_isEmpty_aae02_12
